import java.util.ArrayList;
import java.util.LinkedHashSet;
import java.util.List;
import java.util.Objects;
import java.util.Random;
import java.util.Set;

/**
 * Holds LoopTells against a second program, written as plainly as the document reads: nothing is
 * kept between calls, every run is gone through anew. The numbers are drawn from fixed seeds.
 */
public final class LoopTellsOracle {
  private static final int NO = -1001;

  /** What is seen: two things are the same if what they are and their numbers are; not the place. */
  private static final class Thing {
    final int place;
    final int what;
    final int number;

    Thing(int place, int what, int number) {
      this.place = place;
      this.what = what;
      this.number = number;
    }

    @Override
    public boolean equals(Object o) {
      return o instanceof Thing t && t.what == what && t.number == number;
    }

    @Override
    public int hashCode() {
      return Objects.hash(what, number);
    }
  }

  private static final class Outcome {
    final List<Thing> row = new ArrayList<>();
    final Set<Integer> visited = new LinkedHashSet<>();
    int answer;
    int cost;
    int steps;
    boolean spent;
  }

  private static final class Plain {
    final List<Integer> orders = new ArrayList<>();
    final List<Integer> prices = new ArrayList<>();
    final int[] words = new int[8];
    int eyes = 15;
    int width = 1;
    int even = 0;

    Outcome go(int open, int secret, int eyes, int even) {
      Outcome out = new Outcome();
      int[] r = {open % 4, open / 4, secret % 4, secret / 4};
      int[] m = words.clone();
      int at = 0;
      while (at < orders.size()) {
        out.visited.add(at);
        if (out.steps == 40) {
          out.spent = true;
          break;
        }
        out.steps++;
        int v = orders.get(at);
        int kind = v / 4096;
        int a = v / 256 % 16 % 4;
        int b = v / 16 % 16 % 4;
        int c = v % 16;
        boolean isEven = (even & 1 << at) != 0;
        int next = at + 1;
        int cost = 1;
        if (kind == 0) {
          next = 99;
        } else if (kind == 1) {
          r[a] = c;
        } else if (kind == 2) {
          r[a] = r[a] + r[b];
        } else if (kind == 3) {
          r[a] = r[a] ^ r[b];
        } else if (kind == 4) {
          cost = isEven ? 33 : 1 + (r[b] == 0 ? 0 : Integer.toBinaryString(r[b]).length());
          r[a] = r[a] * r[b];
        } else if (kind == 5 || kind == 6) {
          int word = Math.floorMod(r[b], 8);
          if ((eyes & 2) != 0 && !isEven) {
            out.row.add(new Thing(at, 2, word / width));
          }
          if (kind == 5) {
            r[a] = m[word];
          } else {
            m[word] = r[a];
          }
        } else if (kind == 7) {
          boolean goes = r[a] == 0;
          if ((eyes & 4) != 0 && !isEven) {
            out.row.add(new Thing(at, 4, goes ? 1 : 0));
          }
          next = goes ? c : next;
        } else if (kind == 8) {
          next = c;
        } else if (r[b] != 0) {
          r[a] = r[a] + c;
        }
        out.cost += cost;
        at = next;
      }
      out.answer = r[0];
      if ((eyes & 1) != 0) {
        out.row.add(new Thing(-1, 1, 2 * out.cost + (out.spent ? 1 : 0)));
      }
      if ((eyes & 8) != 0) {
        out.row.add(new Thing(-1, 8, out.answer));
      }
      return out;
    }

    List<List<Thing>> rowsOf(int open) {
      List<List<Thing>> found = new ArrayList<>();
      for (int secret = 0; secret < 16; secret++) {
        List<Thing> row = go(open, secret, eyes, even).row;
        if (!found.contains(row)) {
          found.add(row);
        }
      }
      return found;
    }

    boolean silentWith(int eyes, int even) {
      for (int open = 0; open < 16; open++) {
        List<Thing> first = go(open, 0, eyes, even).row;
        for (int secret = 1; secret < 16; secret++) {
          if (!first.equals(go(open, secret, eyes, even).row)) {
            return false;
          }
        }
      }
      return true;
    }

    int[] pair() {
      for (int open = 0; open < 16; open++) {
        List<Thing> zero = go(open, 0, eyes, even).row;
        for (int secret = 1; secret < 16; secret++) {
          List<Thing> other = go(open, secret, eyes, even).row;
          if (zero.equals(other)) {
            continue;
          }
          int i = 0;
          while (i < zero.size() && i < other.size() && zero.get(i).equals(other.get(i))) {
            i++;
          }
          Thing told = i < zero.size() ? zero.get(i) : other.get(i);
          return new int[] {open, secret, i, told.place, told.what};
        }
      }
      return new int[] {NO, NO, NO, NO, NO};
    }

    int[] cure() {
      int best = -1;
      int bestPrice = 0;
      int many = 0;
      for (int set = 0; set < 1 << orders.size(); set++) {
        if (!silentWith(eyes & 7, set)) {
          continue;
        }
        many++;
        int price = 0;
        for (int p = 0; p < orders.size(); p++) {
          price += (set & 1 << p) != 0 ? prices.get(p) : 0;
        }
        int fewer = Integer.compare(Integer.bitCount(set), Integer.bitCount(best));
        if (best == -1 || price < bestPrice || price == bestPrice && fewer < 0) {
          best = set;
          bestPrice = price;
        }
      }
      return best == -1 ? new int[] {-1, -1, -1} : new int[] {bestPrice, best, many};
    }

    int tellers() {
      int telling = 0;
      int all = (1 << orders.size()) - 1;
      for (int p = 0; p < orders.size(); p++) {
        telling |= silentWith(eyes & 7, all - (1 << p)) ? 0 : 1 << p;
      }
      return telling;
    }

    int reached() {
      int set = 0;
      for (int open = 0; open < 16; open++) {
        for (int secret = 0; secret < 16; secret++) {
          for (int p : go(open, secret, eyes, even).visited) {
            set |= 1 << p;
          }
        }
      }
      return set;
    }
  }

  private static int wrong = 0;
  private static long checks = 0;

  private static void due(String call, long got, long want) {
    checks++;
    if (got != want) {
      wrong++;
      System.out.println(call + " answered " + got + ", due is " + want);
    }
  }

  private static int randomOrder(Random random) {
    int kind = random.nextInt(10);
    if (kind == 0 && random.nextInt(3) != 0) {
      kind = 7;
    }
    int c = random.nextInt(3) == 0 ? random.nextInt(16) : random.nextInt(8);
    return 4096 * kind + 256 * random.nextInt(16) + 16 * random.nextInt(16) + c;
  }

  private static int randomWord(Random random) {
    return random.nextBoolean() ? random.nextInt(6) : random.nextInt();
  }

  private static void checkRuns(String name, LoopTells x, Plain plain, Random random) {
    for (int i = 0; i < 6; i++) {
      int open = random.nextInt(16);
      int secret = random.nextInt(16);
      Outcome out = plain.go(open, secret, plain.eyes, plain.even);
      int[] want = {out.answer, out.cost, out.steps, out.spent ? 1 : 0, out.row.size(), NO};
      for (int what = 0; what < 6; what++) {
        due(name + " run " + what, x.run(open, secret, what), want[what]);
      }
      for (int t = -1; t <= out.row.size(); t++) {
        boolean there = t >= 0 && t < out.row.size();
        due(name + " seen 0", x.seen(open, secret, t, 0), there ? out.row.get(t).place : NO);
        due(name + " seen 1", x.seen(open, secret, t, 1), there ? out.row.get(t).what : NO);
        due(name + " seen 2", x.seen(open, secret, t, 2), there ? out.row.get(t).number : NO);
        due(name + " seen 3", x.seen(open, secret, t, 3), NO);
      }
    }
  }

  private static void checkClasses(String name, LoopTells x, Plain plain) {
    int most = 0;
    for (int open = 0; open < 16; open++) {
      List<List<Thing>> rows = plain.rowsOf(open);
      most = Math.max(most, rows.size());
      due(name + " classes", x.classes(open), rows.size());
      for (int secret = 0; secret < 16; secret++) {
        int want = rows.indexOf(plain.go(open, secret, plain.eyes, plain.even).row);
        due(name + " classOf", x.classOf(open, secret), want);
      }
    }
    due(name + " most", x.most(), most);
    due(name + " silent", x.silent() ? 1 : 0, most == 1 ? 1 : 0);
    int[] pair = plain.pair();
    for (int what = 0; what < 5; what++) {
      due(name + " pair " + what, x.pair(what), pair[what]);
    }
    due(name + " pair 5", x.pair(5), NO);
  }

  private static void checkCures(String name, LoopTells x, Plain plain) {
    int[] cure = plain.cure();
    for (int what = 0; what < 3; what++) {
      due(name + " cure " + what, x.cure(what), cure[what]);
    }
    due(name + " tellers", x.tellers(), plain.tellers());
    due(name + " reached", x.reached(), plain.reached());
  }

  private static void changeSomething(LoopTells x, Plain plain, Random random) {
    int p = random.nextInt(plain.orders.size());
    int v;
    switch (random.nextInt(6)) {
      case 0:
        v = randomOrder(random);
        due("change", x.change(p, v) ? 1 : 0, 1);
        plain.orders.set(p, v);
        break;
      case 1:
        v = randomWord(random);
        due("word", x.word(p, v) ? 1 : 0, 1);
        plain.words[p] = v;
        break;
      case 2:
        plain.eyes = random.nextInt(16);
        plain.width = 1 << random.nextInt(4);
        due("watch", x.watch(plain.eyes, plain.width) ? 1 : 0, 1);
        break;
      case 3:
        plain.even ^= 1 << p;
        due("even", x.even(p, (plain.even & 1 << p) != 0) ? 1 : 0, 1);
        break;
      case 4:
        v = random.nextInt(3) == 0 ? 0 : random.nextInt(100);
        due("price", x.price(p, v) ? 1 : 0, 1);
        plain.prices.set(p, v);
        break;
      default:
        if (plain.orders.size() < 8) {
          v = randomOrder(random);
          due("order", x.order(v), plain.orders.size());
          plain.orders.add(v);
          plain.prices.add(1);
        }
    }
  }

  private static void checkProgram(int seed) {
    Random random = new Random(seed);
    LoopTells x = new LoopTells();
    Plain plain = new Plain();
    int size = 1 + random.nextInt(seed % 8 == 0 ? 8 : 6);
    for (int i = 0; i < size; i++) {
      int v = randomOrder(random);
      due("order", x.order(v), i);
      plain.orders.add(v);
      plain.prices.add(1);
    }
    for (int round = 0; round < 5; round++) {
      String name = "seed " + seed + " round " + round;
      checkRuns(name, x, plain, random);
      checkClasses(name, x, plain);
      checkCures(name, x, plain);
      for (int i = 0; i < 3; i++) {
        changeSomething(x, plain, random);
      }
    }
  }

  public static void main(String[] args) {
    int seeds = args.length > 0 ? Integer.parseInt(args[0]) : 500;
    for (int seed = 0; seed < seeds; seed++) {
      checkProgram(seed);
    }
    System.out.println(checks + " answers compared, " + wrong + " are not as due");
    if (wrong != 0) {
      System.exit(1);
    }
  }
}
