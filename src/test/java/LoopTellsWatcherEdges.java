import java.util.ArrayList;
import java.util.List;

/** Terms, ==== 2 and ==== 3: each sentence on the watcher, the pair and the cures, at its edges. */
public final class LoopTellsWatcherEdges extends Check {
  /** All kinds of things are seen of this: with open 0 and secret 13 four of them, then the end. */
  private static LoopTells allThings() {
    return with(load(0, 3), branch(2, 3), store(0, 2), times(1, 3), branch(1, 5));
  }

  private static final int[][] THINGS = {
    {0, 2, 3}, {1, 4, 0}, {2, 2, 1}, {4, 4, 1}, {-1, 1, 2 * 7}, {-1, 8, 0}
  };

  private static void someEyes() {
    says("THE WATCHER has some of four EYES (a set; at first all)");
    rowIs("at first", allThings(), 0, 13, THINGS);
    for (int eyes = 0; eyes < 16; eyes++) {
      List<int[]> want = new ArrayList<>();
      for (int[] thing : THINGS) {
        if ((thing[1] & eyes) != 0) {
          want.add(thing);
        }
      }
      rowIs("eyes " + eyes, watched(allThings(), eyes, 1), 0, 13, want.toArray(new int[0][]));
    }
  }

  private static void costAndSpent() {
    says("1 the sum of COSTS, as it ENDS (or is SPENT), and whether it is SPENT");
    rowIs("no step", watched(new LoopTells(), 1, 1), 0, 0, new int[] {-1, 1, 0});
    rowIs("ended", watched(with(end()), 1, 1), 0, 0, new int[] {-1, 1, 2});
    rowIs("40, ended", watched(fortiethAtFive(end()), 1, 1), 0, 0, new int[] {-1, 1, 80});
    rowIs("40, spent", watched(fortiethAtFive(jump(5)), 1, 1), 0, 0, new int[] {-1, 1, 81});
  }

  private static void linesByWidth() {
    says("2 with each STEP of KIND 5 or 6 the LINE: (b and 7) by WIDTH (1, 2, 4 or 8; 1 at first)");
    for (int number = -9; number <= 17; number++) {
      LoopTells x = words(with(load(1, 3), load(0, 1), store(0, 1)), number);
      due("width at first", x.seen(0, 0, 1, 2), number & 7);
      for (int width = 1; width <= 8; width *= 2) {
        x.watch(2, width);
        int line = Math.floorMod(number, 8) / width;
        int[] first = {0, 2, 0};
        rowIs("width " + width, x, 0, 0, first, new int[] {1, 2, line}, new int[] {2, 2, line});
      }
    }
  }

  private static void branchesSeen() {
    says("4 with each STEP of KIND 7 whether it goes on at c");
    for (int c = 0; c < 16; c++) {
      due("gone to " + c, watched(with(branch(2, c)), 4, 1).seen(0, 0, 0, 2), 1);
      due("not gone to " + c, watched(with(branch(2, c)), 4, 1).seen(0, 1, 0, 2), 0);
    }
    rowIs("a jump is not seen", watched(with(jump(1), end()), 6, 1), 0, 0);
    due("gone to the next place is gone", watched(with(branch(2, 1), end()), 4, 1).classes(0), 2);
  }

  private static void rowInOrder() {
    says("What it SEES of a run is the row of all this, in order (1, then 8 at the end)");
    rowIs("without steps", with(), 3, 0, new int[] {-1, 1, 0}, new int[] {-1, 8, 3});
    LoopTells full = with(branch(0, 0));
    due("the longest row", full.run(0, 0, 4), 42);
    due("its last branch", full.seen(0, 0, 39, 1), 4);
    due("then the cost", full.seen(0, 0, 40, 1), 1);
    due("then the answer", full.seen(0, 0, 41, 1), 8);
    due("then nothing", full.seen(0, 0, 42, 1), NO);
  }

  private static void whatAndNumberNotPlace() {
    says("what each thing is and its number; not at which PLACE");
    due("another place is not seen", sameLineElsewhere().silent(), true);
    LoopTells x = watched(with(branch(2, 3), branch(0, 2), end(), load(0, 1)), 6, 1);
    x.even(0, true);
    due("a line 1 is no branch 1", x.classes(4), 2);
    due("the line's number", x.seen(4, 0, 0, 2), 1);
    due("the branch's number", x.seen(4, 1, 0, 2), 1);
    LoopTells two = watched(with(branch(2, 3), load(0, 1), end(), load(0, 1), load(0, 1)), 2, 1);
    due("a row is no longer row's beginning", two.classes(0), 2);
    two.even(4, true);
    due("nor is it otherwise if it is as long", two.classes(0), 1);
  }

  private static void evenPlacesCost() {
    says("EVEN PLACES (a set, at first none): a STEP there costs 1 (KIND 4: 33)");
    due("at first", with(end()).look(3), 0);
    for (int kind = 0; kind < 10; kind++) {
      LoopTells x = with(order(kind, 2, 3, 15));
      x.even(0, true);
      due("even kind " + kind, x.run(0, 0, 1), kind == 4 ? 33 : 1);
      due("even kind " + kind + " with more", x.run(15, 15, 1), kind == 4 ? 33 : 1);
    }
    LoopTells y = with(load(1, 3), times(0, 1));
    y.even(1, true);
    for (int number : new int[] {0, 1, 2, GREATEST, LEAST, -1}) {
      y.word(0, number);
      due("even times " + number, y.run(3, 0, 1), 1 + 33);
      due("its answer", y.run(3, 0, 0), 3 * number);
    }
    LoopTells most = with(times(0, 2), jump(0));
    most.even(0, true);
    due("each step there", most.run(0, 0, 1), 20 * 33 + 20);
    due("as seen", most.seen(0, 0, 0, 2), 2 * (20 * 33 + 20) + 1);
  }

  private static void evenPlacesHide() {
    says("its LINE and whether it goes on at c are not seen");
    for (int set = 0; set < 32; set++) {
      LoopTells x = allThings();
      List<int[]> want = new ArrayList<>();
      for (int p = 0; p < 5; p++) {
        if ((set >> p & 1) != 0) {
          x.even(p, true);
        }
      }
      for (int[] thing : THINGS) {
        if (thing[0] >= 0 && (set >> thing[0] & 1) == 0) {
          want.add(thing);
        }
      }
      want.add(new int[] {-1, 1, 2 * ((set & 8) != 0 ? 37 : 7)});
      want.add(new int[] {-1, 8, 0});
      rowIs("even " + set, x, 0, 13, want.toArray(new int[0][]));
      due("the steps stay", x.run(0, 13, 2), 5);
    }
  }

  private static void inputsAsNumbers() {
    says("A run is told by OPEN (o0 + 4 o1) and SECRET (s0 + 4 s1) inputs, 0 .. 15 each.");
    LoopTells x = with(add(1, 1), add(1, 1), add(0, 1));
    for (int open = 0; open < 16; open++) {
      due("open " + open, x.run(open, 0, 0), open);
    }
    LoopTells y = with(add(3, 3), add(3, 3), add(2, 3), number(0, 0), add(0, 2));
    for (int secret = 0; secret < 16; secret++) {
      due("secret " + secret, y.run(0, secret, 0), secret);
    }
    for (int far : FAR) {
      due("open " + far, x.run(far, 0, 0), NO);
      due("secret " + far, x.run(0, far, 0), NO);
    }
  }

  private static void classesOfOneToSixteen() {
    says("CLASSES of an OPEN input: SECRETS of which THE WATCHER SEES the same.");
    LoopTells sixteen = with(add(3, 3), add(3, 3), add(2, 3), number(0, 0), add(0, 2));
    due("all are parted", sixteen.classes(7), 16);
    due("the most", sixteen.most(), 16);
    for (int secret = 0; secret < 16; secret++) {
      due("class", sixteen.classOf(7, secret), secret);
    }
    sixteen.watch(0, 1);
    due("none is parted without eyes", sixteen.classes(7), 1);
    LoopTells back = watched(words(with(load(0, 3)), 5, 6, 5, 5), 8, 1);
    int[] want = {0, 1, 0, 0};
    for (int secret = 0; secret < 16; secret++) {
      due("a class with a gap " + secret, back.classOf(7, secret), want[secret / 4]);
    }
    due("they are two", back.classes(7), 2);
  }

  private static void silentAtEveryOpen() {
    says("SILENT is the PROGRAM, if each OPEN input has one CLASS.");
    for (int open = 0; open < 16; open++) {
      LoopTells x = tellsAtOpen(open);
      due("told at open " + open + " alone", x.silent(), false);
      due("the most there", x.most(), 4);
      for (int other = 0; other < 16; other++) {
        due("classes", x.classes(other), other == open ? 4 : 1);
      }
    }
    due("answers may tell the open input", with(add(0, 1)).silent(), true);
    due("no places", new LoopTells().silent(), true);
  }

  private static void leastOpenAndSecret() {
    says("THE PAIR: the least OPEN input with more, the least SECRET that is seen otherwise than SECRET 0 there");
    for (int open = 0; open < 16; open++) {
      pairIs("open " + open, tellsAtOpen(open), open, 1, 0, -1, 8);
    }
    pairIs("secret 0", tellsSecret(0), 0, 1, 0, -1, 8);
    for (int secret = 1; secret < 16; secret++) {
      pairIs("secret " + secret, tellsSecret(secret), 0, secret, 0, -1, 8);
    }
  }

  private static void firstToldAtAStep() {
    says("It is first told at the first thing that is SEEN otherwise in the rows of both (at a STEP's PLACE;");
    pairIs("the first of all", with(branch(2, 1), load(0, 2)), 0, 1, 0, 0, 4);
    LoopTells later = with(load(0, 1), branch(1, 2), store(0, 3), load(0, 2));
    pairIs("the least secret decides", later, 0, 1, 3, 3, 2);
    later.change(3, end());
    pairIs("then it is another", later, 0, 4, 2, 2, 2);
    later.watch(15, 2);
    pairIs("in wider lines", later, 0, 8, 2, 2, 2);
    LoopTells spin = words(with(branch(1, 1), load(0, 2), branch(1, 0)), 1, 2, 3, 4);
    spin.watch(15, 8);
    pairIs("the last thing of the longest row", spin, 0, 1, 41, -1, 8);
  }

  private static void firstToldAtTheEnd() {
    says("or at the end: -1 1: the COST or being SPENT, 8: the ANSWER alone)");
    pairIs("cost and answer", with(branch(0, 1), number(0, 2), times(0, 2)), 0, 1, 1, -1, 1);
    pairIs("answer alone", with(branch(0, 1), add(0, 2)), 0, 1, 2, -1, 8);
    LoopTells spent = spentAlone();
    due("40 steps", spent.run(0, 0, 1) + 100 * spent.run(0, 1, 1), 4040);
    due("ended", spent.run(0, 0, 3), 0);
    due("or spent", spent.run(0, 1, 3), 1);
    pairIs("being spent alone", spent, 0, 1, 0, -1, 1);
    due("parts two classes", spent.classes(0), 2);
    spent.watch(8, 1);
    due("which the answer does not", spent.silent(), true);
  }

  private static void curesForEyesButTheAnswer() {
    says("CURES: sets of EVEN PLACES with which it is SILENT, for THE WATCHER's EYES but 8.");
    LoopTells x = new LoopTells();
    for (int places = 0; places <= 8; places++) {
      cureIs(places + " places that tell by the answer", x, 0, 0, 1 << places);
      x.order(add(0, 2));
    }
    LoopTells all = with(load(1, 2), load(1, 2), load(1, 2), load(1, 2));
    for (int i = 0; i < 4; i++) {
      all.order(store(1, 3));
    }
    cureIs("all eight places", all, 8, 255, 1);
    all.watch(8, 1);
    cureIs("for no eyes but 8", all, 0, 0, 256);
    all.watch(0, 1);
    cureIs("for no eyes", all, 0, 0, 256);
    LoopTells none = watched(with(branch(2, 2), end()), 1, 1);
    cureIs("no set", none, -1, -1, -1);
    none.watch(9, 1);
    cureIs("no set, with 8", none, -1, -1, -1);
    cureIs("a set that tells more than none", sameLineElsewhere(), 0, 0, 8);
    LoopTells even = watched(with(load(0, 2)), 2, 1);
    even.even(0, true);
    due("it is silent now", even.silent(), true);
    cureIs("still the set is asked for", even, 1, 1, 1);
  }

  private static void curesForAllInputs() {
    says("with which it is SILENT");
    for (int open = 0; open < 16; open++) {
      cureIs("told for open " + open + " alone", lineAtOpen(open), 1, 64, 64);
    }
    for (int secret = 0; secret < 16; secret++) {
      LoopTells x = watched(tellsSecret(secret), 2, 1);
      x.change(6, load(0, 2));
      cureIs("told of secret " + secret + " alone", x, 3, 1 + 8 + 64, 16);
    }
    LoopTells two = watched(with(branch(1, 3), load(0, 2), end(), store(0, 2)), 2, 1);
    cureIs("told at another place for another open", two, 2, 2 + 8, 4);
    cureIs("told by being spent alone", spentAlone(), -1, -1, -1);
    cureIs("the longest rows, all alike", with(branch(0, 0)), 0, 0, 2);
    due("they tell nothing", with(branch(0, 0)).tellers(), 0);
    for (int p = 0; p < 8; p++) {
      for (int v : new int[] {times(1, 2), load(1, 2), store(1, 2), branch(2, p + 1)}) {
        LoopTells x = with(add(0, 1), add(0, 1), add(0, 1), add(0, 1), add(0, 1), add(0, 1), add(0, 1));
        x.order(add(0, 1));
        x.change(p, v);
        cureIs("told at place " + p + " alone by " + v, x, 1, 1 << p, 128);
        due("that tells", x.tellers(), 1 << p);
      }
    }
  }

  private static void pricesAtTheirEdges() {
    says("Each PLACE has a PRICE (0 .. 99, 1 at first).");
    LoopTells x = with(load(1, 2), load(1, 2), load(1, 2), load(1, 2));
    for (int i = 0; i < 4; i++) {
      due("a place", x.order(store(1, 3)), 4 + i);
    }
    for (int p = 0; p < 8; p++) {
      due("at first", x.look(30 + p), 1);
      x.price(p, 99);
    }
    cureIs("all at 99", x, 792, 255, 1);
    for (int p = 0; p < 8; p++) {
      x.price(p, 0);
    }
    cureIs("all at 0", x, 0, 255, 1);
  }

  private static void cheapestFirst() {
    says("The CURE is the cheapest;");
    LoopTells x = twoWays();
    x.price(6, 3);
    cureIs("two places for 2, or one for 3", x, 2, 6, 24);
    x.price(6, 99);
    x.price(1, 98);
    x.price(2, 0);
    cureIs("98 and 0, or 99", x, 98, 6, 24);
    x.price(1, 99);
    x.price(2, 1);
    cureIs("99 and 1, or 99", x, 99, 64, 24);
  }

  private static void fewestPlacesThen() {
    says("of several the one with the fewest PLACES;");
    LoopTells x = twoWays();
    x.price(6, 2);
    cureIs("one place for 2, or two", x, 2, 64, 24);
    x.price(6, 99);
    x.price(1, 99);
    x.price(2, 0);
    cureIs("99, or 99 and 0", x, 99, 64, 24);
    for (int p = 0; p < 7; p++) {
      x.price(p, 0);
    }
    cureIs("all for nothing", x, 0, 64, 24);
    LoopTells idle = with(add(0, 2), load(0, 1));
    idle.price(0, 0);
    idle.price(1, 0);
    cureIs("none, though all are for nothing", idle, 0, 0, 4);
  }

  private static void leastNumberThen() {
    says("then the least number (PLACE p counts 2 to the p)");
    LoopTells x = watched(with(branch(2, 4), load(0, 1), load(0, 1), end(), load(0, 1)), 2, 1);
    cureIs("place 1 or place 2", x, 1, 2, 12);
    x.price(1, 99);
    cureIs("place 2 is cheaper", x, 1, 4, 12);
    x.price(2, 99);
    cureIs("again place 1 or place 2", x, 99, 2, 12);
    LoopTells high = with(branch(2, 7), end(), end(), end(), end(), end(), end(), load(0, 1));
    cureIs("the highest place counts 128", watched(high, 2, 1), 1, 128, 128);
  }

  public static void main(String[] args) {
    someEyes();
    costAndSpent();
    linesByWidth();
    branchesSeen();
    rowInOrder();
    whatAndNumberNotPlace();
    evenPlacesCost();
    evenPlacesHide();
    inputsAsNumbers();
    classesOfOneToSixteen();
    silentAtEveryOpen();
    leastOpenAndSecret();
    firstToldAtAStep();
    firstToldAtTheEnd();
    curesForEyesButTheAnswer();
    curesForAllInputs();
    pricesAtTheirEdges();
    cheapestFirst();
    fewestPlacesThen();
    leastNumberThen();
    close();
  }
}
