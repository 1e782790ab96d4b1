/**
 * A judge of small programs with open and secret inputs: what a watcher sees of their runs, whether
 * that parts two secrets, and which places are to be made even so that it does not.
 */
public final class LoopTells {
  public static final int NONE = -1;

  private static final int ABSENT = NONE - 1000;

  private static final int MOST_PLACES = 8;
  private static final int MOST_SETS = 1 << MOST_PLACES;
  private static final int MOST_STEPS = 40;
  private static final int WORDS = 8;
  private static final int REGISTERS = 4;
  private static final int INPUTS = 16;
  private static final int FIRST_PRICE = 1;
  private static final int MOST_PRICE = 99;

  private static final int KIND_END = 0;
  private static final int KIND_NUMBER = 1;
  private static final int KIND_ADD = 2;
  private static final int KIND_XOR = 3;
  private static final int KIND_TIMES = 4;
  private static final int KIND_LOAD = 5;
  private static final int KIND_STORE = 6;
  private static final int KIND_BRANCH = 7;
  private static final int KIND_JUMP = 8;
  private static final int KIND_ADD_IF = 9;
  private static final int ORDERS = (KIND_ADD_IF + 1) << 12;

  private static final int EYE_COST = 1;
  private static final int EYE_LINE = 2;
  private static final int EYE_BRANCH = 4;
  private static final int EYE_ANSWER = 8;
  private static final int ALL_EYES = 15;

  private static final int STEP_COST = 1;
  private static final int EVEN_TIMES_COST = 33;

  /** The place of things that are seen at the end, and the place where an ended run stands. */
  private static final int NO_PLACE = -1;

  private final Program program = new Program();
  private final Watcher watcher = new Watcher();
  private final Machine machine = new Machine();
  private final Run oneRun = new Run();
  private final Row firstRow = new Row();
  private final Row otherRow = new Row();
  private final Parting parting = new Parting();
  private final Cures cures = new Cures();

  /** The places that runs come to, or NONE while that is not known. */
  private int visited = NONE;

  public LoopTells() {}

  public int order(int v) {
    if (!isOrder(v) || program.count >= MOST_PLACES) {
      return NONE;
    }
    int place = program.append(v);
    forgetRuns();
    return place;
  }

  public boolean change(int p, int v) {
    if (!isOrder(v) || !program.has(p)) {
      return false;
    }
    program.orders[p] = v;
    forgetRuns();
    return true;
  }

  public void clear() {
    program.empty();
    watcher.evenPlaces = 0;
    forgetRuns();
  }

  public boolean word(int i, int v) {
    if (i < 0 || i >= WORDS) {
      return false;
    }
    program.words[i] = v;
    forgetRuns();
    return true;
  }

  public boolean watch(int eyes, int width) {
    if (eyes < 0 || eyes > ALL_EYES || !isWidth(width)) {
      return false;
    }
    watcher.eyes = eyes;
    watcher.width = width;
    forgetRuns();
    return true;
  }

  public boolean even(int p, boolean is) {
    if (!program.has(p) || watcher.holdsEven(p) == is) {
      return false;
    }
    watcher.evenPlaces ^= 1 << p;
    parting.forget();
    return true;
  }

  public boolean price(int p, int v) {
    if (!program.has(p) || v < 0 || v > MOST_PRICE) {
      return false;
    }
    program.prices[p] = v;
    return true;
  }

  public int look(int what) {
    switch (what) {
      case 0:
        return program.count;
      case 1:
        return watcher.eyes;
      case 2:
        return watcher.width;
      case 3:
        return watcher.evenPlaces;
      default:
        return lookInRows(what);
    }
  }

  private int lookInRows(int what) {
    if (what >= 10 && what < 10 + program.count) {
      return program.orders[what - 10];
    }
    if (what >= 30 && what < 30 + program.count) {
      return program.prices[what - 30];
    }
    if (what >= 50 && what < 50 + WORDS) {
      return program.words[what - 50];
    }
    return ABSENT;
  }

  public int run(int open, int secret, int what) {
    if (!isInput(open) || !isInput(secret) || what < 0 || what > 4) {
      return ABSENT;
    }
    fillRow(firstRow, open, secret);
    switch (what) {
      case 0:
        return oneRun.answer;
      case 1:
        return oneRun.costWith(watcher.evenPlaces);
      case 2:
        return oneRun.steps;
      case 3:
        return oneRun.spent ? 1 : 0;
      default:
        return firstRow.length;
    }
  }

  public int seen(int open, int secret, int i, int what) {
    if (!isInput(open) || !isInput(secret) || what < 0 || what > 2) {
      return ABSENT;
    }
    fillRow(firstRow, open, secret);
    if (!firstRow.has(i)) {
      return ABSENT;
    }
    switch (what) {
      case 0:
        return firstRow.places[i];
      case 1:
        return firstRow.whats[i];
      default:
        return firstRow.numbers[i];
    }
  }

  public int classes(int open) {
    if (!isInput(open)) {
      return NONE;
    }
    parting.learn(machine, program, watcher, open);
    return parting.counts[open];
  }

  public int classOf(int open, int secret) {
    if (!isInput(open) || !isInput(secret)) {
      return NONE;
    }
    parting.learn(machine, program, watcher, open);
    return parting.classNumbers[open][secret];
  }

  public int most() {
    int highest = 0;
    for (int open = 0; open < INPUTS; open++) {
      parting.learn(machine, program, watcher, open);
      highest = Math.max(highest, parting.counts[open]);
    }
    return highest;
  }

  public boolean silent() {
    return firstToldOpen() == NONE;
  }

  public int pair(int what) {
    if (what < 0 || what > 4) {
      return ABSENT;
    }
    int open = firstToldOpen();
    if (open == NONE) {
      return ABSENT;
    }
    int secret = parting.firstParted(open);
    if (what == 0) {
      return open;
    }
    if (what == 1) {
      return secret;
    }
    return firstTold(open, secret, what);
  }

  public int cure(int what) {
    if (what < 0 || what > 2) {
      return NONE;
    }
    cures.learn(machine, program, watcher);
    int best = cures.cheapest(program);
    if (best == NONE) {
      return NONE;
    }
    switch (what) {
      case 0:
        return program.priceOf(best);
      case 1:
        return best;
      default:
        return cures.howMany(program);
    }
  }

  public int reached() {
    if (visited == NONE) {
      visited = visitedByAll();
    }
    return visited;
  }

  public int tellers() {
    cures.learn(machine, program, watcher);
    int all = program.allPlaces();
    int telling = 0;
    for (int place = 0; place < program.count; place++) {
      if (!cures.calm[all & ~(1 << place)]) {
        telling |= 1 << place;
      }
    }
    return telling;
  }

  private static boolean isOrder(int v) {
    return v >= 0 && v < ORDERS;
  }

  private static boolean isInput(int v) {
    return v >= 0 && v < INPUTS;
  }

  private static boolean isWidth(int v) {
    return v == 1 || v == 2 || v == 4 || v == 8;
  }

  private void forgetRuns() {
    visited = NONE;
    parting.forget();
    cures.forget();
  }

  private void fillRow(Row row, int open, int secret) {
    machine.go(program, watcher, open, secret, oneRun);
    row.fill(oneRun, watcher.eyes, watcher.evenPlaces);
  }

  private int firstToldOpen() {
    for (int open = 0; open < INPUTS; open++) {
      parting.learn(machine, program, watcher, open);
      if (parting.counts[open] > 1) {
        return open;
      }
    }
    return NONE;
  }

  private int firstTold(int open, int secret, int what) {
    fillRow(firstRow, open, 0);
    fillRow(otherRow, open, secret);
    int first = firstRow.firstOtherwise(otherRow);
    Row told = firstRow.has(first) ? firstRow : otherRow;
    if (!told.has(first)) {
      return ABSENT;
    }
    switch (what) {
      case 2:
        return first;
      case 3:
        return told.places[first];
      default:
        return told.whats[first];
    }
  }

  private int visitedByAll() {
    int all = 0;
    for (int open = 0; open < INPUTS; open++) {
      for (int secret = 0; secret < INPUTS; secret++) {
        machine.go(program, watcher, open, secret, oneRun);
        all |= oneRun.visited;
      }
    }
    return all;
  }

  /** The orders with their prices, and the memory as runs begin. */
  private static final class Program {
    final int[] orders = new int[MOST_PLACES];
    final int[] prices = new int[MOST_PLACES];
    final int[] words = new int[WORDS];
    int count = 0;

    boolean has(int place) {
      return place >= 0 && place < count;
    }

    int append(int v) {
      if (count >= MOST_PLACES) {
        return NONE;
      }
      orders[count] = v;
      prices[count] = FIRST_PRICE;
      count++;
      return count - 1;
    }

    void empty() {
      count = 0;
    }

    int allPlaces() {
      return (1 << count) - 1;
    }

    int priceOf(int places) {
      int sum = 0;
      for (int place = 0; place < count; place++) {
        if ((places >> place & 1) != 0) {
          sum += prices[place];
        }
      }
      return sum;
    }

    /** The places that could matter to these eyes: to make any other even changes nothing seen. */
    int placesUnder(int eyes) {
      int set = 0;
      for (int place = 0; place < count; place++) {
        if ((eyeOn(orders[place] >> 12) & eyes) != 0) {
          set |= 1 << place;
        }
      }
      return set;
    }

    private static int eyeOn(int kind) {
      switch (kind) {
        case KIND_TIMES:
          return EYE_COST;
        case KIND_LOAD:
        case KIND_STORE:
          return EYE_LINE;
        case KIND_BRANCH:
          return EYE_BRANCH;
        default:
          return 0;
      }
    }
  }

  /** Who looks, how finely, and which places are hidden by being even. */
  private static final class Watcher {
    int eyes = ALL_EYES;
    int width = 1;
    int evenPlaces = 0;

    boolean holdsEven(int place) {
      return (evenPlaces >> place & 1) != 0;
    }
  }

  /** A run as it would tell if no place were even; which places are even is applied afterwards. */
  private static final class Run {
    final int[] places = new int[MOST_STEPS];
    final int[] whats = new int[MOST_STEPS];
    final int[] numbers = new int[MOST_STEPS];
    final int[] costs = new int[MOST_PLACES];
    final int[] evenCosts = new int[MOST_PLACES];
    int length = 0;
    int steps = 0;
    int visited = 0;
    int answer = 0;
    boolean spent = false;

    void begin() {
      length = 0;
      steps = 0;
      visited = 0;
      for (int place = 0; place < MOST_PLACES; place++) {
        costs[place] = 0;
        evenCosts[place] = 0;
      }
    }

    void tell(int place, int what, int number) {
      if (length >= MOST_STEPS) {
        return;
      }
      places[length] = place;
      whats[length] = what;
      numbers[length] = number;
      length++;
    }

    int costWith(int evenPlaces) {
      int sum = 0;
      for (int place = 0; place < MOST_PLACES; place++) {
        sum += (evenPlaces >> place & 1) != 0 ? evenCosts[place] : costs[place];
      }
      return sum;
    }

    /** Whether no set of even places can make these eyes see the two runs otherwise. */
    boolean alwaysSeenAs(Run other, int eyes) {
      if ((eyes & EYE_COST) != 0 && !costsAs(other)) {
        return false;
      }
      if (length != other.length) {
        return false;
      }
      for (int i = 0; i < length; i++) {
        if (places[i] != other.places[i]
            || whats[i] != other.whats[i]
            || numbers[i] != other.numbers[i]) {
          return false;
        }
      }
      return true;
    }

    private boolean costsAs(Run other) {
      if (spent != other.spent) {
        return false;
      }
      for (int place = 0; place < MOST_PLACES; place++) {
        if (costs[place] != other.costs[place] || evenCosts[place] != other.evenCosts[place]) {
          return false;
        }
      }
      return true;
    }
  }

  /** Does the orders, and writes down in a run what they could tell. */
  private static final class Machine {
    private final int[] registers = new int[REGISTERS];
    private final int[] memory = new int[WORDS];
    private int at = 0;

    void go(Program program, Watcher watcher, int open, int secret, Run run) {
      begin(program, open, secret);
      run.begin();
      for (int step = 0; step < MOST_STEPS && program.has(at); step++) {
        run.visited |= 1 << at;
        run.steps++;
        doOrder(program.orders[at], watcher, run);
      }
      run.spent = program.has(at);
      if (run.spent) {
        // A spent run stands at a place whose order it does not do: it has come there all the same.
        run.visited |= 1 << at;
      }
      run.answer = registers[0];
    }

    private void begin(Program program, int open, int secret) {
      at = 0;
      registers[0] = open & 3;
      registers[1] = open >> 2 & 3;
      registers[2] = secret & 3;
      registers[3] = secret >> 2 & 3;
      for (int i = 0; i < WORDS; i++) {
        memory[i] = program.words[i];
      }
    }

    private void doOrder(int order, Watcher watcher, Run run) {
      int here = at;
      int kind = order >> 12;
      int a = order >> 8 & 3;
      int b = registers[order >> 4 & 3];
      int c = order & 15;
      boolean times = kind == KIND_TIMES;
      run.costs[here] += times ? STEP_COST + bitsOf(b) : STEP_COST;
      run.evenCosts[here] += times ? EVEN_TIMES_COST : STEP_COST;
      tellOf(kind, registers[a], b, watcher, run);
      at = next(kind, registers[a], c);
      work(kind, a, b, c);
    }

    private void tellOf(int kind, int a, int b, Watcher watcher, Run run) {
      boolean line = kind == KIND_LOAD || kind == KIND_STORE;
      if (line && (watcher.eyes & EYE_LINE) != 0 && watcher.width > 0) {
        run.tell(at, EYE_LINE, (b & 7) / watcher.width);
      }
      if (kind == KIND_BRANCH && (watcher.eyes & EYE_BRANCH) != 0) {
        run.tell(at, EYE_BRANCH, a == 0 ? 1 : 0);
      }
    }

    private int next(int kind, int a, int c) {
      switch (kind) {
        case KIND_END:
          return NO_PLACE;
        case KIND_BRANCH:
          return a == 0 ? c : at + 1;
        case KIND_JUMP:
          return c;
        default:
          return at + 1;
      }
    }

    private void work(int kind, int a, int b, int c) {
      switch (kind) {
        case KIND_NUMBER:
          registers[a] = c;
          break;
        case KIND_ADD:
          registers[a] += b;
          break;
        case KIND_XOR:
          registers[a] ^= b;
          break;
        case KIND_TIMES:
          registers[a] *= b;
          break;
        case KIND_LOAD:
          registers[a] = memory[b & 7];
          break;
        case KIND_STORE:
          memory[b & 7] = registers[a];
          break;
        case KIND_ADD_IF:
          registers[a] += b != 0 ? c : 0;
          break;
        default:
          break;
      }
    }

    private static int bitsOf(int number) {
      return 32 - Integer.numberOfLeadingZeros(number);
    }
  }

  /** What some eyes see of a run, in order. */
  private static final class Row {
    private static final int MOST_THINGS = MOST_STEPS + 2;

    final int[] places = new int[MOST_THINGS];
    final int[] whats = new int[MOST_THINGS];
    final int[] numbers = new int[MOST_THINGS];
    int length = 0;

    boolean has(int i) {
      return i >= 0 && i < length;
    }

    void fill(Run run, int eyes, int evenPlaces) {
      length = 0;
      for (int i = 0; i < run.length; i++) {
        if ((evenPlaces >> run.places[i] & 1) == 0) {
          add(run.places[i], run.whats[i], run.numbers[i]);
        }
      }
      if ((eyes & EYE_COST) != 0) {
        add(NO_PLACE, EYE_COST, 2 * run.costWith(evenPlaces) + (run.spent ? 1 : 0));
      }
      if ((eyes & EYE_ANSWER) != 0) {
        add(NO_PLACE, EYE_ANSWER, run.answer);
      }
    }

    private void add(int place, int what, int number) {
      if (length >= MOST_THINGS) {
        return;
      }
      places[length] = place;
      whats[length] = what;
      numbers[length] = number;
      length++;
    }

    /** The number of the first thing that the rows do not share, or NONE. Places are not seen. */
    int firstOtherwise(Row other) {
      int shared = Math.min(length, other.length);
      for (int i = 0; i < shared; i++) {
        if (whats[i] != other.whats[i] || numbers[i] != other.numbers[i]) {
          return i;
        }
      }
      return length == other.length ? NONE : shared;
    }
  }

  /** The classes of each open input, kept until something changes what is seen. */
  private static final class Parting {
    final int[][] classNumbers = new int[INPUTS][INPUTS];
    /** How many classes each open input has; 0 while that is not known. */
    final int[] counts = new int[INPUTS];
    private final Run run = new Run();
    private final Row[] leastRows = new Row[INPUTS];

    Parting() {
      for (int i = 0; i < INPUTS; i++) {
        leastRows[i] = new Row();
      }
    }

    void forget() {
      for (int open = 0; open < INPUTS; open++) {
        counts[open] = 0;
      }
    }

    void learn(Machine machine, Program program, Watcher watcher, int open) {
      if (counts[open] > 0) {
        return;
      }
      int found = 0;
      for (int secret = 0; secret < INPUTS; secret++) {
        // The row goes where the least row of a new class belongs, and stays if it is one.
        Row row = leastRows[found];
        machine.go(program, watcher, open, secret, run);
        row.fill(run, watcher.eyes, watcher.evenPlaces);
        int number = classAmong(row, found);
        classNumbers[open][secret] = number;
        if (number == found) {
          found++;
        }
      }
      counts[open] = found;
    }

    private int classAmong(Row row, int found) {
      for (int number = 0; number < found; number++) {
        if (row.firstOtherwise(leastRows[number]) == NONE) {
          return number;
        }
      }
      return found;
    }

    int firstParted(int open) {
      for (int secret = 1; secret < INPUTS; secret++) {
        if (classNumbers[open][secret] != 0) {
          return secret;
        }
      }
      return NONE;
    }
  }

  /** With which sets of even places the program is silent for the eyes but that on the answer. */
  private static final class Cures {
    final boolean[] calm = new boolean[MOST_SETS];
    private final Run[] runs = new Run[INPUTS];
    private final Row firstRow = new Row();
    private final Row otherRow = new Row();
    private boolean known = false;

    Cures() {
      for (int i = 0; i < INPUTS; i++) {
        runs[i] = new Run();
      }
    }

    void forget() {
      known = false;
    }

    void learn(Machine machine, Program program, Watcher watcher) {
      if (known) {
        return;
      }
      int eyes = watcher.eyes & ~EYE_ANSWER;
      int mattering = program.placesUnder(eyes);
      for (int set = 0; set < MOST_SETS; set++) {
        calm[set] = true;
      }
      for (int open = 0; open < INPUTS; open++) {
        int kept = gatherRuns(machine, program, watcher, open);
        if (kept > 1) {
          sift(kept, eyes, mattering);
        }
      }
      for (int set = 0; set < MOST_SETS; set++) {
        calm[set] = calm[set & mattering];
      }
      known = true;
    }

    /** Keeps, in front, one of all runs that are seen alike whatever is even: how many. */
    private int gatherRuns(Machine machine, Program program, Watcher watcher, int open) {
      int kept = 0;
      for (int secret = 0; secret < INPUTS; secret++) {
        machine.go(program, watcher, open, secret, runs[kept]);
        if (isNew(kept, watcher.eyes)) {
          kept++;
        }
      }
      return kept;
    }

    private boolean isNew(int kept, int eyes) {
      for (int i = 0; i < kept; i++) {
        if (runs[kept].alwaysSeenAs(runs[i], eyes)) {
          return false;
        }
      }
      return true;
    }

    private void sift(int kept, int eyes, int mattering) {
      for (int set = 0; set < MOST_SETS; set++) {
        if ((set & ~mattering) == 0 && calm[set]) {
          calm[set] = seenAlike(kept, eyes, set);
        }
      }
    }

    private boolean seenAlike(int kept, int eyes, int evenPlaces) {
      firstRow.fill(runs[0], eyes, evenPlaces);
      for (int i = 1; i < kept; i++) {
        otherRow.fill(runs[i], eyes, evenPlaces);
        if (firstRow.firstOtherwise(otherRow) != NONE) {
          return false;
        }
      }
      return true;
    }

    /** The cheapest set, then the one with the fewest places, then the least; NONE if none cures. */
    int cheapest(Program program) {
      int sets = 1 << program.count;
      int best = NONE;
      for (int set = 0; set < sets; set++) {
        if (calm[set] && (best == NONE || isBetter(program, set, best))) {
          best = set;
        }
      }
      return best;
    }

    private static boolean isBetter(Program program, int set, int best) {
      int price = program.priceOf(set);
      int bestPrice = program.priceOf(best);
      if (price != bestPrice) {
        return price < bestPrice;
      }
      return Integer.bitCount(set) < Integer.bitCount(best);
    }

    int howMany(Program program) {
      int sets = 1 << program.count;
      int found = 0;
      for (int set = 0; set < sets; set++) {
        if (calm[set]) {
          found++;
        }
      }
      return found;
    }
  }
}
