import java.util.function.ToIntFunction;

/** The sentences of "Terms", which bind every promise, and of "What it is": a test for each. */
public final class TermsTests extends Checks {
  private static final long[] GREATEST = {127, 32767, 2147483647L, Long.MAX_VALUE};
  private static final long[] LEAST = {-128, -32768, -2147483648L, Long.MIN_VALUE};

  private static void calls() {
    StrideViews x = new StrideViews();
    due(0, x.store(3, 300));
    for (int i = 0; i < 300; i++) x.put(0, i, i);
    for (int i = 301; i < 509; i++) x.at(0, 0);
    due(1, x.slice(0, 0, 299, -1, 300));
    due(299, x.at(1, 0));
    // The 512th call.
    due(300, x.copy(1, 0));
  }

  private static void twelveStores() {
    StrideViews x = counted(0, 2);
    for (int s = 1; s < 12; s += 3) {
      due(s, x.told(x.store(0, 1), 0));
      if (s + 1 < 12) due(s + 1, x.told(x.compact(0, 0), 0));
      if (s + 2 < 12) due(s + 2, x.told(x.fold(0, 0, 0), 0));
    }
    due(12, x.count(0));
    dueThrow(STATE, () -> x.store(0, 0));
    dueThrow(STATE, () -> x.compact(0, 0));
    dueThrow(STATE, () -> x.fold(0, 0, 0));
    due(12, x.count(0));
    due(12, x.turn(0, 0, 0));
  }

  private static void threeHundredNumbers() {
    StrideViews x = new StrideViews();
    for (int n : new int[] {0, 1, 299, 300}) due(n, x.told(x.store(0, n), 3));
    for (int n : new int[] {-1, 301, MAX, MIN}) dueThrow(ARGUMENT, () -> x.store(0, n));
    int most = x.spread(x.pick(1, 0, 0), 0, 300);
    int over = x.spread(x.pick(1, 0, 0), 0, 301);
    due(300, x.told(x.compact(most, 0), 3));
    dueThrow(STATE, () -> x.compact(over, 0));
    due(300, x.told(x.fold(0, x.spread(most, 0, 2), 0), 3));
    int wide = x.spread(over, 0, 2);
    dueThrow(STATE, () -> x.fold(0, wide, 0));
  }

  private static void lanes() {
    StrideViews x = new StrideViews();
    for (int lane = 0; lane < 4; lane++) {
      x.store(lane, 2);
      x.put(lane, 0, GREATEST[lane]);
      x.put(lane, 1, LEAST[lane]);
      items(x, lane, GREATEST[lane], LEAST[lane]);
    }
    for (int lane : new int[] {-1, 4, MAX, MIN}) {
      dueThrow(ARGUMENT, () -> x.store(lane, 1));
      dueThrow(ARGUMENT, () -> x.compact(0, lane));
    }
  }

  private static void signs() {
    StrideViews x = new StrideViews();
    for (int lane = 0; lane < 4; lane++) {
      x.store(lane, 2);
      x.put(lane, 0, -1);
      x.put(lane, 1, GREATEST[lane] + 1);
      items(x, lane, -1, LEAST[lane]);
    }
  }

  private static void noughtAtFirst() {
    StrideViews x = new StrideViews();
    for (int lane = 0; lane < 4; lane++) {
      x.store(lane, 300);
      for (int i : new int[] {0, 1, 150, 298, 299}) due(0, x.at(lane, i));
    }
  }

  private static void lowestBits() {
    StrideViews x = counted(3, 6);
    long[] given = {128, 32768, 2147483648L, -129, 0x123456789abcdef0L, Long.MIN_VALUE};
    long[][] kept = {
      {-128, 0, 0, 127, -16, 0},
      {128, -32768, 0, -129, -8464, 0},
      {128, 32768, -2147483648L, -129, -1698898192L, 0},
      given};
    for (int i = 0; i < 6; i++) x.put(0, i, given[i]);
    for (int lane = 0; lane < 4; lane++) {
      int byPut = x.store(lane, 6);
      for (int i = 0; i < 6; i++) x.put(byPut, i, given[i]);
      items(x, byPut, kept[lane]);
      items(x, x.compact(0, lane), kept[lane]);
    }
    StrideViews y = counted(3, 6);
    for (int i = 0; i < 6; i++) y.put(0, i, given[i]);
    int nought = y.store(3, 1);
    for (int lane = 0; lane < 4; lane++) {
      int byCopy = y.store(lane, 6);
      y.copy(0, byCopy);
      items(y, byCopy, kept[lane]);
      int byAct = y.store(lane, 6);
      y.act(0, 0, nought, byAct);
      items(y, byAct, kept[lane]);
    }
  }

  private static void places() {
    StrideViews x = new StrideViews();
    x.store(0, 300);
    due(0, x.told(0, 5));
    due(299, x.told(0, 6));
    due(0, x.told(x.pick(0, 0, 0), 1));
    due(299, x.told(x.pick(0, 0, 299), 1));
  }

  private static void eightyViews() {
    for (ToIntFunction<StrideViews> maker : makers()) dueLastView(maker);
    StrideViews full = fullOfViews();
    due(6, full.told(79, 3));
    dueThrow(INDEX, () -> full.told(80, 3));
  }

  private static void fourAxes() {
    StrideViews x = counted(2, 6);
    int view = x.pick(0, 0, 5);
    for (int axes = 0; axes < 4; axes++) {
      due(axes, x.told(view, 2));
      view = x.spread(view, 0, 1);
    }
    due(4, x.told(view, 2));
    int four = view;
    dueThrow(STATE, () -> x.spread(four, 0, 1));
    due(1, x.axis(four, 3, 0));
    dueThrow(INDEX, () -> x.axis(four, 4, 0));
    dueThrow(INDEX, () -> x.axis(x.pick(0, 0, 0), 0, 0));
  }

  private static void indexes() {
    StrideViews x = table();
    due(0, x.at(x.pick(x.pick(1, 0, 0), 0, 0), 0));
    due(5, x.at(x.pick(x.pick(1, 0, 1), 0, 2), 0));
    dueThrow(INDEX, () -> x.pick(1, 0, 2));
    dueThrow(INDEX, () -> x.pick(1, 1, 3));
    dueThrow(INDEX, () -> x.pick(1, 0, -1));
    dueThrow(INDEX, () -> x.pick(1, 1, -1));
  }

  private static void placeOfAnItem() {
    StrideViews x = counted(2, 12);
    int view = x.spread(x.slice(x.slice(x.shape(0, 2, 3, 2), 1, 2, -2, 2), 2, 1, -1, 2), 1, 2);
    lies(x, view, 5, 2, 6, 2, 0, 2, -4, 2, -1);
    items(x, view, 5, 4, 1, 0, 5, 4, 1, 0, 11, 10, 7, 6, 11, 10, 7, 6);
    x.put(x.slice(view, 1, 0, 1, 1), 7, 99);
    due(99, x.at(0, 6));
  }

  private static void lastAxisFirst() {
    StrideViews x = counted(2, 24);
    int view = x.shape(0, 2, 3, 4);
    due(0, x.at(view, 0));
    due(3, x.at(view, 3));
    due(4, x.at(view, 4));
    due(12, x.at(view, 12));
    due(23, x.at(view, 23));
    int turned = x.turn(view, 0, 2);
    due(12, x.at(turned, 1));
    due(4, x.at(turned, 2));
    due(1, x.at(turned, 6));
    dueThrow(INDEX, () -> x.at(turned, -1));
    dueThrow(INDEX, () -> x.at(turned, 24));
  }

  private static void oneItemWithoutAxes() {
    StrideViews x = counted(2, 3);
    int bare = x.pick(0, 0, 2);
    due(0, x.told(bare, 2));
    due(1, x.told(bare, 3));
    due(2, x.at(bare, 0));
    due(2, x.put(bare, 0, 8));
    due(8, x.at(0, 2));
    dueThrow(INDEX, () -> x.at(bare, 1));
    dueThrow(INDEX, () -> x.at(bare, -1));
    due(1, x.runs(bare));
    due(1, x.shared(bare, 0));
  }

  private static void threeThousandItems() {
    StrideViews x = counted(2, 3);
    int most = x.spread(0, 0, 1000);
    due(3000, x.told(most, 3));
    due(2, x.at(most, 2999));
    dueThrow(INDEX, () -> x.at(most, 3000));
    dueThrow(STATE, () -> x.spread(0, 0, 1001));
    dueThrow(STATE, () -> x.spread(most, 0, 2));
    due(3000, x.told(x.spread(most, 0, 1), 3));
    int one = x.pick(0, 0, 1);
    due(3000, x.told(x.spread(one, 0, 3000), 3));
    dueThrow(STATE, () -> x.spread(one, 0, 3001));
    // The lowest 32 bits of these products are 2, 0 and 0.
    dueThrow(STATE, () -> x.spread(0, 0, 1431655766));
    int pair = x.slice(0, 0, 0, 1, 2);
    int wide = x.spread(pair, 0, 2);
    dueThrow(STATE, () -> x.spread(wide, 0, 1 << 30));
    dueThrow(STATE, () -> x.spread(x.spread(wide, 0, 512), 0, 1 << 21));
    dueThrow(STATE, () -> x.spread(most, 0, MAX));
    int none = x.slice(0, 0, 0, 1, 0);
    due(0, x.told(x.spread(none, 0, MAX), 3));
    due(0, x.told(x.spread(most, 0, 0), 3));
  }

  private static void noStepBelowTwo() {
    StrideViews x = counted(2, 12);
    lies(x, x.store(0, 1), 0, 1, 0);
    lies(x, x.store(0, 0), 0, 0, 0);
    lies(x, x.slice(0, 0, 7, 5, 1), 7, 1, 0);
    lies(x, x.spread(0, 0, 1), 0, 1, 0, 12, 1);
    int line = x.shape(0, 1, 12, 1);
    lies(x, line, 0, 1, 0, 12, 1, 1, 0);
    lies(x, x.turn(line, 0, 1), 0, 12, 1, 1, 0, 1, 0);
    lies(x, x.diagonal(line, 0, 1), 0, 1, 0, 1, 0);
    lies(x, x.pick(line, 1, 4), 4, 1, 0, 1, 0);
    lies(x, x.compact(line, 0), 0, 1, 0, 12, 1, 1, 0);
    lies(x, x.fold(0, line, 1), 0, 1, 0, 1, 0);
    lies(x, x.slice(0, 0, 7, 5, 0), 0, 0, 0);
    lies(x, x.slice(0, 0, 2, 5, 2), 2, 2, 5);
  }

  private static void noStepsWithoutItems() {
    StrideViews x = counted(2, 12);
    int cube = x.shape(x.slice(0, 0, 11, -1, 12), 2, 3, 2);
    lies(x, cube, 11, 2, -6, 3, -2, 2, -1);
    int none = x.slice(cube, 1, 2, -1, 0);
    lies(x, none, 0, 2, 0, 0, 0, 2, 0);
    lies(x, x.slice(none, 0, 1, -1, 2), 0, 2, 0, 0, 0, 2, 0);
    lies(x, x.pick(none, 0, 1), 0, 0, 0, 2, 0);
    lies(x, x.turn(none, 0, 1), 0, 0, 0, 2, 0, 2, 0);
    lies(x, x.spread(none, 3, 4), 0, 2, 0, 0, 0, 2, 0, 4, 0);
    lies(x, x.spread(cube, 0, 0), 0, 0, 0, 2, 0, 3, 0, 2, 0);
    lies(x, x.diagonal(none, 0, 1), 0, 2, 0, 0, 0);
    lies(x, x.diagonal(none, 0, 2), 0, 0, 0, 2, 0);
    lies(x, x.shape(none, 7, 0, 9), 0, 7, 0, 0, 0, 9, 0);
    lies(x, x.compact(none, 1), 0, 2, 0, 0, 0, 2, 0);
    lies(x, x.fold(0, none, 0), 0, 0, 0, 2, 0);
    lies(x, x.store(1, 0), 0, 0, 0);
    // Along the axis without items the others have some, and steps again.
    lies(x, x.fold(0, none, 1), 0, 2, 2, 2, 1);
  }

  /** Without items there is no limit on the other extents, so every call must do with them. */
  private static void anyExtent() {
    StrideViews x = counted(2, 6);
    int none = x.slice(0, 0, 0, 1, 0);
    int view = x.shape(none, 0, MAX, MAX);
    lies(x, view, 0, 0, 0, MAX, 0, MAX, 0);
    lies(x, x.spread(view, 3, MAX), 0, 0, 0, MAX, 0, MAX, 0, MAX, 0);
    lies(x, x.slice(view, 2, MAX - 1, -1, MAX), 0, 0, 0, MAX, 0, MAX, 0);
    lies(x, x.slice(view, 2, MAX - 1, 1 - MAX, 2), 0, 0, 0, MAX, 0, 2, 0);
    dueThrow(ARGUMENT, () -> x.slice(view, 2, MAX, -1, 1));
    lies(x, x.pick(view, 1, MAX - 1), 0, 0, 0, MAX, 0);
    dueThrow(INDEX, () -> x.pick(view, 1, MAX));
    lies(x, x.turn(view, 0, 2), 0, MAX, 0, MAX, 0, 0, 0);
    lies(x, x.diagonal(view, 1, 2), 0, 0, 0, MAX, 0);
    lies(x, x.diagonal(view, 0, 2), 0, MAX, 0, 0, 0);
    lies(x, x.shape(view, 0, NONE, NONE), 0, 0, 0);
    lies(x, x.compact(view, 3), 0, 0, 0, MAX, 0, MAX, 0);
    lies(x, x.fold(0, view, 1), 0, 0, 0, MAX, 0);
    dueThrow(STATE, () -> x.fold(0, view, 0));
    dueThrow(INDEX, () -> x.at(view, 0));
    dueThrow(INDEX, () -> x.put(view, 0, 1));
    dueThrow(STATE, () -> x.copy(view, view));
    dueThrow(STATE, () -> x.act(0, view, view, view));
    due(0, x.shared(view, view));
    due(0, x.shared(view, 0));
    due(0, x.shared(0, view));
    due(true, x.same(view, view));
    due(0, x.runs(view));
    due(0, x.told(view, 3));
    due(NONE, x.told(view, 5));
    due(NONE, x.told(view, 6));
  }

  private static int spreadAxes(StrideViews x, int view) {
    int many = 0;
    for (int k = 0; k < x.told(view, 2); k++) {
      if (x.axis(view, k, 1) == 0 && x.axis(view, k, 0) >= 2) many++;
    }
    return many;
  }

  private static void spreadAxis() {
    StrideViews x = counted(2, 6);
    int once = x.spread(0, 0, 1);
    int twice = x.spread(0, 0, 2);
    due(0, x.told(once, 4));
    due(1, x.told(twice, 4));
    due(1, spreadAxes(x, twice));
    due(0, x.told(x.slice(twice, 0, 1, -1, 1), 4));
    int both = x.slice(twice, 0, 1, -1, 2);
    lies(x, both, 0, 2, 0, 6, 1);
    due(1, x.told(both, 4));
    int joined = x.diagonal(twice, 0, 1);
    lies(x, joined, 0, 2, 1);
    due(0, x.told(joined, 4));
    int square = x.spread(twice, 2, 2);
    int still = x.diagonal(square, 0, 2);
    lies(x, still, 0, 6, 1, 2, 0);
    due(1, x.told(still, 4));
    due(0, x.told(x.slice(0, 0, 0, 5, 2), 4));
    due(0, x.told(x.slice(0, 0, 5, -5, 2), 4));
    // All steps of a view without items are 0.
    due(1, x.told(x.slice(x.shape(0, 2, 3, NONE), 1, 0, 1, 0), 4));
    due(0, x.told(x.slice(x.shape(0, 1, 6, NONE), 1, 0, 1, 0), 4));
    due(0, x.told(x.slice(0, 0, 0, 1, 0), 4));
  }

  private static void fixedByOneAxis() {
    StrideViews x = table();
    due(0, x.told(1, 4));
    for (int ahead = 0; ahead < 3; ahead++) {
      int wide = x.spread(1, ahead, 2);
      due(1, x.told(wide, 4));
      dueThrow(STATE, () -> x.put(wide, 0, 1));
      dueThrow(STATE, () -> x.copy(wide, wide));
      dueThrow(STATE, () -> x.act(0, wide, wide, wide));
      due(0, x.told(x.pick(wide, ahead, 1), 4));
      due(0, x.told(x.slice(wide, ahead, 0, 1, 1), 4));
    }
    due(0, x.told(x.pick(1, 0, 0), 4));
    due(0, x.told(x.pick(x.pick(1, 0, 0), 0, 0), 4));
  }

  private static void goesToNoFewerAxes() {
    StrideViews x = table();
    int row = x.store(2, 3);
    int line = x.spread(row, 0, 1);
    due(0, x.copy(row, row));
    x.copy(row, x.compact(1, 2));
    x.copy(line, x.compact(1, 2));
    dueThrow(ARGUMENT, () -> x.copy(line, row));
    dueThrow(ARGUMENT, () -> x.copy(x.shape(row, 1, 1, 3), 1));
    int bare = x.pick(row, 0, 0);
    due(0, x.copy(bare, bare));
    dueThrow(ARGUMENT, () -> x.copy(x.slice(row, 0, 0, 1, 1), bare));
  }

  private static void goesToTheLastAxes() {
    StrideViews x = table();
    int two = x.slice(0, 0, 4, 1, 2);
    int three = x.slice(0, 0, 3, 1, 3);
    int to = x.compact(1, 2);
    x.copy(three, to);
    items(x, to, 3, 4, 5, 3, 4, 5);
    dueThrow(ARGUMENT, () -> x.copy(two, to));
    dueThrow(ARGUMENT, () -> x.act(0, two, three, to));
    dueThrow(ARGUMENT, () -> x.act(0, three, two, to));
    int column = x.spread(two, 1, 1);
    x.copy(column, to);
    items(x, to, 4, 4, 4, 5, 5, 5);
    dueThrow(ARGUMENT, () -> x.copy(x.spread(three, 1, 1), to));
    dueThrow(ARGUMENT, () -> x.copy(0, to));
    // The extent 1 goes to all, but not the other way.
    int one = x.slice(0, 0, 2, 1, 1);
    x.copy(one, to);
    items(x, to, 2, 2, 2, 2, 2, 2);
    dueThrow(ARGUMENT, () -> x.copy(two, one));
    int none = x.slice(0, 0, 0, 1, 0);
    due(0, x.copy(one, none));
    due(0, x.copy(none, none));
    dueThrow(ARGUMENT, () -> x.copy(none, one));
    dueThrow(ARGUMENT, () -> x.copy(two, none));
    dueThrow(ARGUMENT, () -> x.copy(none, to));
  }

  private static void itemsForEachIndex() {
    StrideViews x = counted(2, 12);
    int to = x.shape(x.store(2, 12), 2, 3, 2);
    x.copy(x.shape(x.slice(0, 0, 7, 1, 3), 3, 1, NONE), to);
    items(x, to, 7, 7, 8, 8, 9, 9, 7, 7, 8, 8, 9, 9);
    x.copy(x.shape(x.slice(0, 0, 5, -1, 4), 2, 1, 2), to);
    items(x, to, 5, 4, 5, 4, 5, 4, 3, 2, 3, 2, 3, 2);
    x.copy(x.pick(0, 0, 9), to);
    items(x, to, 9, 9, 9, 9, 9, 9, 9, 9, 9, 9, 9, 9);
    x.act(0, x.shape(x.slice(0, 0, 3, 1, 2), 2, 1, 1), x.slice(0, 0, 10, 1, 2), to);
    items(x, to, 13, 14, 13, 14, 13, 14, 14, 15, 14, 15, 14, 15);
  }

  private static void readBeforePut() {
    StrideViews x = counted(2, 6);
    int low = x.slice(0, 0, 0, 1, 5);
    int high = x.slice(0, 0, 1, 1, 5);
    int back = x.slice(0, 0, 5, -1, 6);
    x.copy(low, high);
    items(x, 0, 0, 0, 1, 2, 3, 4);
    x.copy(high, low);
    items(x, 0, 0, 1, 2, 3, 4, 4);
    x.copy(back, 0);
    items(x, 0, 4, 4, 3, 2, 1, 0);
    x.act(0, low, high, high);
    items(x, 0, 4, 8, 7, 5, 3, 1);
    x.act(1, 0, back, 0);
    items(x, 0, 3, 5, 2, -2, -5, -3);
    // The item that all take is itself put to.
    x.act(2, x.pick(0, 0, 1), 0, 0);
    items(x, 0, 15, 25, 10, -10, -25, -15);
    x.act(0, 0, x.pick(0, 0, 0), back);
    items(x, 0, 0, -10, 5, 25, 40, 30);
    x.copy(x.pick(0, 0, 5), back);
    items(x, 0, 30, 30, 30, 30, 30, 30);
    StrideViews y = counted(2, 9);
    int square = y.shape(0, 3, 3, NONE);
    due(6, y.copy(y.turn(square, 0, 1), square));
    items(y, 0, 0, 3, 6, 1, 4, 7, 2, 5, 8);
  }

  private static void noSuchOne() {
    StrideViews x = table();
    int stores = x.count(0);
    int views = x.count(1);
    for (int store : new int[] {-1, stores, 11, 12, MAX, MIN}) dueThrow(INDEX, () -> x.stored(store, 0));
    for (int view : new int[] {-1, views, 79, 80, MAX, MIN}) noSuchView(x, view);
    for (int axis : new int[] {-1, 2, 3, 4, MAX, MIN}) noSuchAxis(x, axis);
    for (int i : new int[] {-1, 6, 3000, MAX, MIN}) {
      dueThrow(INDEX, () -> x.at(1, i));
      dueThrow(INDEX, () -> x.put(1, i, 1));
    }
    due(views, x.count(1));
  }

  private static void noSuchView(StrideViews x, int view) {
    dueThrow(INDEX, () -> x.slice(view, 0, 0, 1, 1));
    dueThrow(INDEX, () -> x.pick(view, 0, 0));
    dueThrow(INDEX, () -> x.turn(view, 0, 0));
    dueThrow(INDEX, () -> x.spread(view, 0, 1));
    dueThrow(INDEX, () -> x.diagonal(view, 0, 1));
    dueThrow(INDEX, () -> x.shape(view, 6, NONE, NONE));
    dueThrow(INDEX, () -> x.compact(view, 0));
    dueThrow(INDEX, () -> x.at(view, 0));
    dueThrow(INDEX, () -> x.put(view, 0, 1));
    dueThrow(INDEX, () -> x.copy(view, 0));
    dueThrow(INDEX, () -> x.copy(0, view));
    dueThrow(INDEX, () -> x.act(0, view, 0, 0));
    dueThrow(INDEX, () -> x.act(0, 0, view, 0));
    dueThrow(INDEX, () -> x.act(0, 0, 0, view));
    dueThrow(INDEX, () -> x.fold(0, view, 0));
    dueThrow(INDEX, () -> x.shared(view, 0));
    dueThrow(INDEX, () -> x.shared(0, view));
    dueThrow(INDEX, () -> x.same(view, 0) ? 1 : 0);
    dueThrow(INDEX, () -> x.same(0, view) ? 1 : 0);
    dueThrow(INDEX, () -> x.runs(view));
    dueThrow(INDEX, () -> x.told(view, 0));
    dueThrow(INDEX, () -> x.axis(view, 0, 0));
  }

  private static void noSuchAxis(StrideViews x, int axis) {
    dueThrow(INDEX, () -> x.slice(1, axis, 0, 1, 1));
    dueThrow(INDEX, () -> x.pick(1, axis, 0));
    dueThrow(INDEX, () -> x.turn(1, axis, 0));
    dueThrow(INDEX, () -> x.turn(1, 0, axis));
    if (axis != 2) dueThrow(INDEX, () -> x.spread(1, axis, 1));
    dueThrow(INDEX, () -> x.diagonal(1, axis, 0));
    dueThrow(INDEX, () -> x.diagonal(1, 0, axis));
    dueThrow(INDEX, () -> x.fold(0, 1, axis));
    dueThrow(INDEX, () -> x.axis(1, axis, 0));
  }

  private static void noneThatIsTold() {
    StrideViews x = table();
    int wrongs = x.count(1);
    for (int below : new int[] {-1, MIN}) {
      dueThrow(ARGUMENT, () -> x.store(below, 1));
      dueThrow(ARGUMENT, () -> x.store(0, below));
      dueThrow(ARGUMENT, () -> x.slice(1, 0, 0, 1, below));
      dueThrow(ARGUMENT, () -> x.slice(1, 0, below, 1, 1));
      dueThrow(ARGUMENT, () -> x.spread(1, 0, below));
      dueThrow(ARGUMENT, () -> x.compact(1, below));
      dueThrow(ARGUMENT, () -> x.act(below, 1, 1, 1));
      dueThrow(ARGUMENT, () -> x.fold(below, 1, 0));
      dueThrow(ARGUMENT, () -> x.told(1, below));
      dueThrow(ARGUMENT, () -> x.axis(1, 0, below));
      dueThrow(ARGUMENT, () -> x.stored(0, below));
      dueThrow(ARGUMENT, () -> x.count(below));
    }
    dueThrow(ARGUMENT, () -> x.store(4, 1));
    dueThrow(ARGUMENT, () -> x.store(0, 301));
    dueThrow(ARGUMENT, () -> x.slice(1, 0, 0, 0, 1));
    dueThrow(ARGUMENT, () -> x.slice(1, 0, 2, 1, 1));
    dueThrow(ARGUMENT, () -> x.diagonal(1, 0, 0));
    dueThrow(ARGUMENT, () -> x.shape(1, -2, 6, NONE));
    dueThrow(ARGUMENT, () -> x.shape(1, 7, NONE, NONE));
    dueThrow(ARGUMENT, () -> x.compact(1, 4));
    dueThrow(ARGUMENT, () -> x.act(5, 1, 1, 1));
    dueThrow(ARGUMENT, () -> x.fold(5, 1, 0));
    dueThrow(ARGUMENT, () -> x.fold(1, 1, 0));
    dueThrow(ARGUMENT, () -> x.told(1, 7));
    dueThrow(ARGUMENT, () -> x.axis(1, 0, 2));
    dueThrow(ARGUMENT, () -> x.stored(0, 3));
    dueThrow(ARGUMENT, () -> x.count(2));
    due(wrongs, x.count(1));
  }

  private static void tooMany() {
    StrideViews views = fullOfViews();
    for (ToIntFunction<StrideViews> maker : makers()) dueThrow(STATE, () -> maker.applyAsInt(views));
    StrideViews stores = fullOfStores();
    dueThrow(STATE, () -> stores.store(0, 1));
    dueThrow(STATE, () -> stores.compact(1, 0));
    dueThrow(STATE, () -> stores.fold(0, 1, 0));
    due(13, stores.slice(1, 0, 0, 1, 1));
    StrideViews items = table();
    due(3000, items.told(items.spread(1, 0, 500), 3));
    dueThrow(STATE, () -> items.spread(1, 0, 501));
  }

  /** What a call throws for which two or three would be due; the views and stores are full besides. */
  private static void theFirstOne() {
    StrideViews x = table();
    int fixed = x.spread(1, 0, 301);
    int four = x.spread(x.spread(1, 0, 1), 0, 1);
    fillStores(x, 0);
    fillViews(x, 0);
    dueThrow(ARGUMENT, () -> x.store(4, 1));
    dueThrow(ARGUMENT, () -> x.store(0, 301));
    dueThrow(INDEX, () -> x.slice(80, 0, 0, 0, 1));
    dueThrow(INDEX, () -> x.slice(1, 2, 0, 1, -1));
    dueThrow(ARGUMENT, () -> x.slice(1, 0, 0, 0, 1));
    dueThrow(ARGUMENT, () -> x.slice(1, 0, 2, 1, 1));
    dueThrow(INDEX, () -> x.pick(1, 0, 2));
    dueThrow(INDEX, () -> x.turn(1, 0, 2));
    dueThrow(INDEX, () -> x.spread(80, 0, -1));
    dueThrow(INDEX, () -> x.spread(four, 5, -1));
    dueThrow(ARGUMENT, () -> x.spread(four, 4, -1));
    dueThrow(ARGUMENT, () -> x.spread(1, 0, -1));
    dueThrow(INDEX, () -> x.diagonal(1, 2, 2));
    dueThrow(ARGUMENT, () -> x.diagonal(1, 1, 1));
    dueThrow(INDEX, () -> x.shape(80, -2, NONE, NONE));
    dueThrow(ARGUMENT, () -> x.shape(1, -2, NONE, NONE));
    dueThrow(ARGUMENT, () -> x.shape(fixed, 1805, NONE, NONE));
    dueThrow(INDEX, () -> x.compact(80, 4));
    dueThrow(ARGUMENT, () -> x.compact(fixed, 4));
    dueThrow(INDEX, () -> x.put(fixed, 1806, 1));
    dueThrow(INDEX, () -> x.copy(80, fixed));
    dueThrow(INDEX, () -> x.copy(fixed, 80));
    dueThrow(ARGUMENT, () -> x.copy(four, fixed));
    dueThrow(INDEX, () -> x.act(5, 80, 1, fixed));
    dueThrow(INDEX, () -> x.act(5, 1, 80, fixed));
    dueThrow(INDEX, () -> x.act(5, four, four, 80));
    dueThrow(ARGUMENT, () -> x.act(5, 1, 1, fixed));
    dueThrow(ARGUMENT, () -> x.act(0, four, 1, fixed));
    dueThrow(ARGUMENT, () -> x.act(0, 1, four, fixed));
    dueThrow(INDEX, () -> x.fold(1, 80, 0));
    dueThrow(INDEX, () -> x.fold(1, fixed, 3));
    dueThrow(ARGUMENT, () -> x.fold(1, fixed, 2));
    dueThrow(INDEX, () -> x.told(80, 7));
    dueThrow(INDEX, () -> x.axis(80, 0, 2));
    dueThrow(INDEX, () -> x.axis(1, 2, 2));
    dueThrow(INDEX, () -> x.stored(12, 3));
  }

  private static StrideViews mixed() {
    StrideViews x = counted(1, 6);
    x.shape(0, 2, 3, NONE);
    x.spread(1, 0, 301);
    x.store(0, 3);
    x.slice(0, 0, 0, 1, 0);
    x.spread(1, 0, 1);
    x.spread(5, 0, 1);
    x.put(3, 1, 7);
    return x;
  }

  private static StrideViews mixedAndFull() {
    StrideViews x = mixed();
    fillViews(x, 0);
    return x;
  }

  private static StrideViews mixedWithAllStores() {
    StrideViews x = mixed();
    fillStores(x, 0);
    return x;
  }

  private static void nothingChanges() {
    dueUnchanged(ARGUMENT, TermsTests::mixed, x -> x.store(4, 1));
    dueUnchanged(ARGUMENT, TermsTests::mixed, x -> x.store(0, 301));
    dueUnchanged(INDEX, TermsTests::mixed, x -> x.slice(1, 2, 0, 1, 1));
    dueUnchanged(ARGUMENT, TermsTests::mixed, x -> x.slice(1, 0, 0, 1, 3));
    dueUnchanged(INDEX, TermsTests::mixed, x -> x.pick(1, 0, 2));
    dueUnchanged(INDEX, TermsTests::mixed, x -> x.turn(1, 0, 2));
    dueUnchanged(INDEX, TermsTests::mixed, x -> x.spread(1, 3, 2));
    dueUnchanged(ARGUMENT, TermsTests::mixed, x -> x.spread(1, 0, -1));
    dueUnchanged(STATE, TermsTests::mixed, x -> x.spread(6, 0, 1));
    dueUnchanged(STATE, TermsTests::mixed, x -> x.spread(1, 0, 501));
    dueUnchanged(ARGUMENT, TermsTests::mixed, x -> x.diagonal(1, 1, 1));
    dueUnchanged(ARGUMENT, TermsTests::mixed, x -> x.shape(1, 5, NONE, NONE));
    dueUnchanged(STATE, TermsTests::mixed, x -> x.shape(2, 1806, NONE, NONE));
    dueUnchanged(ARGUMENT, TermsTests::mixed, x -> x.compact(1, 4));
    dueUnchanged(STATE, TermsTests::mixed, x -> x.compact(2, 0));
    dueUnchanged(INDEX, TermsTests::mixed, x -> x.at(1, 6));
    dueUnchanged(INDEX, TermsTests::mixed, x -> x.put(1, 6, 9));
    dueUnchanged(STATE, TermsTests::mixed, x -> x.put(2, 0, 9));
    dueUnchanged(ARGUMENT, TermsTests::mixed, x -> x.copy(0, 1));
    dueUnchanged(ARGUMENT, TermsTests::mixed, x -> x.copy(4, 3));
    dueUnchanged(STATE, TermsTests::mixed, x -> x.copy(3, 2));
    dueUnchanged(INDEX, TermsTests::mixed, x -> x.act(0, 1, 1, 7));
    dueUnchanged(ARGUMENT, TermsTests::mixed, x -> x.act(5, 3, 3, 1));
    dueUnchanged(ARGUMENT, TermsTests::mixed, x -> x.act(0, 3, 0, 1));
    dueUnchanged(STATE, TermsTests::mixed, x -> x.act(0, 3, 3, 2));
    dueUnchanged(ARGUMENT, TermsTests::mixed, x -> x.fold(1, 1, 0));
    dueUnchanged(STATE, TermsTests::mixed, x -> x.fold(0, 2, 2));
    dueUnchanged(INDEX, TermsTests::mixed, x -> x.shared(0, 7));
    dueUnchanged(INDEX, TermsTests::mixed, x -> x.same(0, 7) ? 1 : 0);
    dueUnchanged(INDEX, TermsTests::mixed, x -> x.runs(7));
    dueUnchanged(ARGUMENT, TermsTests::mixed, x -> x.told(0, 7));
    dueUnchanged(ARGUMENT, TermsTests::mixed, x -> x.axis(0, 0, 2));
    dueUnchanged(ARGUMENT, TermsTests::mixed, x -> x.stored(0, 3));
    dueUnchanged(ARGUMENT, TermsTests::mixed, x -> x.count(2));
    for (ToIntFunction<StrideViews> maker : makers()) {
      dueUnchanged(STATE, TermsTests::mixedAndFull, x -> maker.applyAsInt(x));
    }
    dueUnchanged(STATE, TermsTests::mixedWithAllStores, x -> x.store(0, 1));
    dueUnchanged(STATE, TermsTests::mixedWithAllStores, x -> x.compact(1, 0));
    dueUnchanged(STATE, TermsTests::mixedWithAllStores, x -> x.fold(0, 1, 0));
  }

  public static void main(String[] args) {
    String it = "What it is";
    sentence(it, "An object is used for at most 512 calls after it has been made", TermsTests::calls);
    String terms = "Terms";
    sentence(terms, "STORES 0, 1, .. (12 at most)", TermsTests::twelveStores);
    sentence(terms, "have 0 .. 300 numbers", TermsTests::threeHundredNumbers);
    sentence(terms, "of a LANE: 0 of 8, 1 of 16, 2 of 32, 3 of 64 bits", TermsTests::lanes);
    sentence(terms, "with a sign", TermsTests::signs);
    sentence(terms, "0 at first", TermsTests::noughtAtFirst);
    sentence(terms, "What is put into one keeps its lowest bits.", TermsTests::lowestBits);
    sentence(terms, "PLACES of a store are 0, 1, ..", TermsTests::places);
    sentence(terms, "VIEWS 0, 1, .. (80 at most)", TermsTests::eightyViews);
    sentence(terms, "AXES 0, 1, .. (0 .. 4)", TermsTests::fourAxes);
    sentence(terms, "An item of a view has an index 0 .. EXTENT - 1 along each AXIS", TermsTests::indexes);
    sentence(terms, "lies at the PLACE that is START and the sum of each index times the STEP",
        TermsTests::placeOfAnItem);
    sentence(terms, "Items are numbered from 0, the last AXIS's index going first", TermsTests::lastAxisFirst);
    sentence(terms, "a view without AXES has one", TermsTests::oneItemWithoutAxes);
    sentence(terms, "There are 3000 at most.", TermsTests::threeThousandItems);
    sentence(terms, "An AXIS of an EXTENT below 2 has the STEP 0", TermsTests::noStepBelowTwo);
    sentence(terms, "if an EXTENT is 0 all STEPS and START are 0", TermsTests::noStepsWithoutItems);
    sentence(terms, "each with an EXTENT (0, 1, ..) and a STEP", TermsTests::anyExtent);
    sentence(terms, "An AXIS is SPREAD, if its STEP is 0, and its EXTENT 2 or more", TermsTests::spreadAxis);
    sentence(terms, "a view is FIXED, if one of its AXES is", TermsTests::fixedByOneAxis);
    sentence(terms, "A view GOES TO another one, if it has no more AXES", TermsTests::goesToNoFewerAxes);
    sentence(terms, "each, the last ones together, has the same EXTENT as the other one's, or 1",
        TermsTests::goesToTheLastAxes);
    sentence(terms, "its items are there for each index of that AXIS, and of the AXES that it lacks, likewise",
        TermsTests::itemsForEachIndex);
    sentence(terms, "All acts with several items work as if all were read first, and then put, in order.",
        TermsTests::readBeforePut);
    sentence(terms, "IndexOutOfBounds: no such store, view, AXIS, item.", TermsTests::noSuchOne);
    sentence(terms, "IllegalArgument: another number is none that is told.", TermsTests::noneThatIsTold);
    sentence(terms, "IllegalState: as told, or there would be too many stores, views, items.", TermsTests::tooMany);
    sentence(terms, "Of several the first one in this order, if nothing else is told.", TermsTests::theFirstOne);
    sentence(terms, "A call that throws changes nothing.", TermsTests::nothingChanges);
    end();
  }
}
