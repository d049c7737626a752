/** The sentences of promises 10 to 14, which read numbers and put them: a test for each. */
public final class NumberTests extends Checks {
  private static void atItem() {
    StrideViews x = counted(2, 12);
    int cube = x.shape(0, 2, 3, 2);
    due(0, x.at(cube, 0));
    due(11, x.at(cube, 11));
    int turned = x.turn(cube, 0, 1);
    due(6, x.at(turned, 2));
    due(7, x.at(turned, 3));
    due(2, x.at(turned, 4));
    int wide = x.spread(x.slice(0, 0, 11, -1, 12), 1, 3);
    due(11, x.at(wide, 0));
    due(11, x.at(wide, 2));
    due(10, x.at(wide, 3));
    due(0, x.at(wide, 35));
    due(9, x.at(x.pick(0, 0, 9), 0));
    int most = x.spread(x.spread(x.slice(0, 0, 0, 1, 10), 1, 150), 1, 2);
    due(9, x.at(most, 2999));
    due(8, x.at(most, 2699));
  }

  private static void atIndexes() {
    StrideViews x = table();
    for (int view : new int[] {-1, 2, MAX, MIN}) dueThrow(INDEX, () -> x.at(view, 0));
    for (int i : new int[] {-1, 6, MAX, MIN}) dueThrow(INDEX, () -> x.at(1, i));
    int none = x.slice(1, 0, 0, 1, 0);
    dueThrow(INDEX, () -> x.at(none, 0));
    dueThrow(INDEX, () -> x.at(none, -1));
    int bare = x.pick(0, 0, 5);
    due(5, x.at(bare, 0));
    dueThrow(INDEX, () -> x.at(bare, 1));
    int wide = x.spread(1, 0, 3);
    due(5, x.at(wide, 17));
    dueThrow(INDEX, () -> x.at(wide, 18));
  }

  private static void putItem() {
    StrideViews x = counted(1, 6);
    int back = x.slice(0, 0, 5, -2, 3);
    due(3, x.put(back, 1, 70000));
    items(x, 0, 0, 1, 2, 4464, 4, 5);
    due(4464, x.put(0, 3, -1));
    due(-1, x.put(0, 3, -1));
    due(0, x.put(0, 0, 9));
    due(5, x.put(0, 5, 8));
    items(x, 0, 9, 1, 2, -1, 4, 8);
    int table = x.turn(x.shape(0, 2, 3, NONE), 0, 1);
    due(-1, x.put(table, 1, 3));
    due(8, x.put(table, 5, 6));
    items(x, 0, 9, 1, 2, 3, 4, 6);
  }

  private static void putWhatItWas() {
    long[][] kept = {
      {127, -128, -1, 0}, {32767, -32768, -1, 0}, {2147483647L, -2147483648L, -1, 0},
      {Long.MAX_VALUE, Long.MIN_VALUE, -1, 5}};
    long[] over = {128, 32768, 2147483648L, 0};
    for (int lane = 0; lane < 4; lane++) {
      StrideViews x = new StrideViews();
      x.store(lane, 2);
      long was = 0;
      for (long v : kept[lane]) {
        due(was, x.put(0, 1, v));
        due(v, x.at(0, 1));
        was = v;
      }
      // Not what was given, but what was kept of it.
      x.put(0, 1, over[lane]);
      due(lane == 3 ? 0 : -over[lane], x.put(0, 1, 1));
      due(0, x.at(0, 0));
    }
  }

  private static void putIndexes() {
    StrideViews x = table();
    for (int view : new int[] {-1, 2, MAX, MIN}) dueThrow(INDEX, () -> x.put(view, 0, 9));
    for (int i : new int[] {-1, 6, MAX, MIN}) dueThrow(INDEX, () -> x.put(1, i, 9));
    int none = x.slice(1, 0, 0, 1, 0);
    dueThrow(INDEX, () -> x.put(none, 0, 9));
    items(x, 0, 0, 1, 2, 3, 4, 5);
  }

  private static void putFixed() {
    StrideViews x = table();
    int wide = x.spread(1, 2, 2);
    int single = x.spread(1, 2, 1);
    dueThrow(STATE, () -> x.put(wide, 0, 9));
    dueThrow(STATE, () -> x.put(wide, 11, 9));
    items(x, 0, 0, 1, 2, 3, 4, 5);
    due(5, x.put(single, 5, 9));
    due(9, x.at(wide, 11));
    due(9, x.put(x.slice(wide, 2, 1, 1, 1), 5, 8));
    due(0, x.put(x.diagonal(wide, 0, 2), 0, 7));
    items(x, 0, 7, 1, 2, 3, 4, 8);
  }

  private static void copyItems() {
    StrideViews x = counted(2, 6);
    int to = x.store(2, 6);
    x.copy(0, to);
    items(x, to, 0, 1, 2, 3, 4, 5);
    x.copy(x.slice(0, 0, 5, -1, 6), to);
    items(x, to, 5, 4, 3, 2, 1, 0);
    int table = x.shape(to, 2, 3, NONE);
    x.copy(x.slice(0, 0, 1, 1, 3), table);
    items(x, to, 1, 2, 3, 1, 2, 3);
    x.copy(x.shape(x.slice(0, 0, 4, 1, 2), 2, 1, NONE), table);
    items(x, to, 4, 4, 4, 5, 5, 5);
    x.copy(x.pick(0, 0, 1), table);
    items(x, to, 1, 1, 1, 1, 1, 1);
    x.copy(x.spread(x.slice(0, 0, 0, 1, 3), 0, 2), table);
    items(x, to, 0, 1, 2, 0, 1, 2);
    x.copy(x.slice(0, 0, 0, 1, 2), x.slice(to, 0, 5, -5, 2));
    items(x, to, 1, 1, 2, 0, 1, 0);
    items(x, 0, 0, 1, 2, 3, 4, 5);
  }

  private static void copyOthers() {
    StrideViews x = counted(2, 6);
    int low = x.slice(0, 0, 0, 1, 5);
    int high = x.slice(0, 0, 1, 1, 5);
    due(5, x.copy(low, high));
    due(4, x.copy(high, low));
    due(0, x.copy(0, 0));
    items(x, 0, 0, 1, 2, 3, 4, 4);
    int small = x.store(0, 6);
    due(5, x.copy(0, small));
    due(0, x.copy(0, small));
    // 260 keeps the lowest bits of 4, so there is no other number then.
    x.put(0, 4, 260);
    due(0, x.copy(0, small));
    x.put(0, 0, 256);
    due(0, x.copy(0, small));
    x.put(0, 0, 257);
    due(1, x.copy(0, small));
    items(x, small, 1, 1, 2, 3, 4, 4);
    due(5, x.copy(x.pick(small, 0, 3), small));
    due(0, x.copy(x.pick(small, 0, 0), x.slice(small, 0, 0, 1, 0)));
    int wide = x.store(2, 300);
    due(300, x.copy(x.pick(small, 0, 0), wide));
  }

  private static void copyIndexes() {
    StrideViews x = table();
    for (int view : new int[] {-1, 2, MAX, MIN}) {
      dueThrow(INDEX, () -> x.copy(view, 1));
      dueThrow(INDEX, () -> x.copy(1, view));
      dueThrow(INDEX, () -> x.copy(view, view));
    }
  }

  private static void copyDoesNotGo() {
    StrideViews x = table();
    int row = x.slice(0, 0, 1, 1, 3);
    int pair = x.slice(0, 0, 0, 1, 2);
    int none = x.slice(0, 0, 0, 1, 0);
    dueThrow(ARGUMENT, () -> x.copy(0, 1));
    dueThrow(ARGUMENT, () -> x.copy(1, 0));
    dueThrow(ARGUMENT, () -> x.copy(1, row));
    dueThrow(ARGUMENT, () -> x.copy(pair, 1));
    dueThrow(ARGUMENT, () -> x.copy(x.shape(row, 1, 1, 3), 1));
    dueThrow(ARGUMENT, () -> x.copy(x.turn(1, 0, 1), 1));
    dueThrow(ARGUMENT, () -> x.copy(none, row));
    dueThrow(ARGUMENT, () -> x.copy(row, none));
    items(x, 0, 0, 1, 2, 3, 4, 5);
  }

  private static void copyFixed() {
    StrideViews x = table();
    int row = x.slice(0, 0, 1, 1, 3);
    int wide = x.spread(row, 0, 2);
    int single = x.spread(row, 0, 1);
    int none = x.slice(0, 0, 0, 1, 0);
    dueThrow(STATE, () -> x.copy(row, wide));
    dueThrow(STATE, () -> x.copy(wide, wide));
    dueThrow(STATE, () -> x.copy(none, x.spread(none, 0, 2)));
    items(x, 0, 0, 1, 2, 3, 4, 5);
    due(0, x.copy(row, single));
    due(0, x.copy(none, x.spread(none, 0, 1)));
    due(6, x.copy(wide, 1));
    items(x, 0, 1, 2, 3, 1, 2, 3);
  }

  private static final long[] FIRST = {Long.MAX_VALUE, -7, 3, Long.MIN_VALUE};
  private static final long[] SECOND = {1, 7, -5, 1};

  /** FIRST as view 0, SECOND as view 1, and as view 2 where they are put to. */
  private static StrideViews pairs(int lane) {
    StrideViews x = new StrideViews();
    x.store(3, 4);
    x.store(3, 4);
    x.store(lane, 4);
    for (int i = 0; i < 4; i++) {
      x.put(0, i, FIRST[i]);
      x.put(1, i, SECOND[i]);
    }
    return x;
  }

  private static void actBoth() {
    StrideViews y = counted(2, 6);
    int to = y.shape(y.store(2, 6), 2, 3, NONE);
    int row = y.slice(0, 0, 0, 1, 3);
    int column = y.shape(y.slice(0, 0, 4, 1, 2), 2, 1, NONE);
    y.act(1, column, row, to);
    items(y, to, 4, 3, 2, 5, 4, 3);
    y.act(1, row, column, to);
    items(y, to, -4, -3, -2, -5, -4, -3);
    y.act(0, y.pick(0, 0, 5), to, to);
    items(y, to, 1, 2, 3, 0, 1, 2);
    y.act(2, to, y.slice(0, 0, 2, 1, 1), to);
    items(y, to, 2, 4, 6, 0, 2, 4);
    y.act(0, to, to, y.turn(y.shape(y.store(2, 6), 3, 2, NONE), 0, 1));
    items(y, y.count(1) - 1, 4, 8, 12, 0, 4, 8);
    items(y, 0, 0, 1, 2, 3, 4, 5);
    int none = y.slice(0, 0, 0, 1, 0);
    due(0, y.act(0, none, y.pick(0, 0, 0), none));
    due(0, y.act(0, y.slice(0, 0, 0, 1, 1), none, none));
    // Few items after many: no place of the many is looked at again.
    y.runs(y.slice(y.store(0, 300), 0, 299, -1, 300));
    due(1, y.act(0, y.pick(0, 0, 5), y.pick(0, 0, 5), y.store(0, 1)));
    due(0, y.act(0, none, none, none));
  }

  private static void actSum() {
    StrideViews x = pairs(3);
    x.act(0, 0, 1, 2);
    items(x, 2, Long.MIN_VALUE, 0, -2, Long.MIN_VALUE + 1);
  }

  private static void actLess() {
    StrideViews x = pairs(3);
    x.act(1, 0, 1, 2);
    items(x, 2, Long.MAX_VALUE - 1, -14, 8, Long.MAX_VALUE);
    x.act(1, 1, 0, 2);
    items(x, 2, Long.MIN_VALUE + 2, 14, -8, Long.MIN_VALUE + 1);
  }

  private static void actProduct() {
    StrideViews x = pairs(3);
    x.act(2, 0, 1, 2);
    items(x, 2, Long.MAX_VALUE, -49, -15, Long.MIN_VALUE);
    x.act(2, 0, 0, 2);
    items(x, 2, 1, 49, 9, 0);
  }

  private static void actGreater() {
    StrideViews x = pairs(3);
    x.act(3, 0, 1, 2);
    items(x, 2, Long.MAX_VALUE, 7, 3, 1);
    due(0, x.act(3, 1, 0, 2));
    due(0, x.act(3, 2, 2, 2));
  }

  private static void actLesser() {
    StrideViews x = pairs(3);
    x.act(4, 0, 1, 2);
    items(x, 2, 1, -7, -5, Long.MIN_VALUE);
    due(0, x.act(4, 1, 0, 2));
    due(0, x.act(4, 2, 2, 2));
  }

  private static void actOf64Bits() {
    StrideViews x = pairs(0);
    // Which one is greater is told before the lowest bits are kept.
    x.act(3, 0, 1, 2);
    items(x, 2, -1, 7, 3, 1);
    x.act(4, 0, 1, 2);
    items(x, 2, 1, -7, -5, 0);
    x.act(2, 0, 1, 2);
    items(x, 2, -1, -49, -15, 0);
    x.put(0, 0, 200);
    x.put(1, 0, 100);
    x.act(3, 0, 1, 2);
    due(-56, x.at(2, 0));
    x.act(4, 0, 1, 2);
    due(100, x.at(2, 0));
    // Narrow ones are reckoned in 64 bits too.
    StrideViews y = new StrideViews();
    y.store(0, 1);
    y.store(3, 1);
    y.put(0, 0, 127);
    y.act(0, 0, 0, 1);
    due(254, y.at(1, 0));
    y.act(2, 0, 0, 1);
    due(16129, y.at(1, 0));
    y.store(2, 1);
    y.put(2, 0, Integer.MIN_VALUE);
    y.act(2, 2, 2, 1);
    due(1L << 62, y.at(1, 0));
    y.act(1, 2, 0, 1);
    due(-2147483775L, y.at(1, 0));
  }

  private static void actOthers() {
    StrideViews x = pairs(3);
    due(3, x.act(0, 0, 1, 2));
    due(4, x.act(1, 0, 1, 2));
    due(4, x.act(2, 0, 1, 2));
    due(3, x.act(3, 0, 1, 2));
    due(0, x.act(3, 0, 1, 2));
    due(4, x.act(4, 0, 1, 2));
    StrideViews small = pairs(0);
    due(3, small.act(2, 0, 1, 2));
    due(0, small.act(2, 0, 1, 2));
    StrideViews y = counted(2, 6);
    int low = y.slice(0, 0, 0, 1, 5);
    due(5, y.act(0, low, y.slice(0, 0, 1, 1, 5), low));
    items(y, 0, 1, 3, 5, 7, 9, 5);
    int full = y.store(2, 300);
    due(300, y.act(3, y.pick(full, 0, 0), y.pick(0, 0, 1), y.shape(full, 100, 3, 1)));
    due(3, y.at(full, 299));
  }

  private static void actIndexes() {
    StrideViews x = table();
    for (int view : new int[] {-1, 2, MAX, MIN}) {
      dueThrow(INDEX, () -> x.act(0, view, 1, 1));
      dueThrow(INDEX, () -> x.act(0, 1, view, 1));
      dueThrow(INDEX, () -> x.act(0, 1, 1, view));
    }
    items(x, 0, 0, 1, 2, 3, 4, 5);
  }

  private static void actNoSuch() {
    StrideViews x = table();
    for (int act : new int[] {-1, 5, MAX, MIN}) dueThrow(ARGUMENT, () -> x.act(act, 1, 1, 1));
    items(x, 0, 0, 1, 2, 3, 4, 5);
    for (int act = 0; act < 5; act++) x.act(act, 1, 1, 1);
  }

  private static void actDoesNotGo() {
    StrideViews x = table();
    int row = x.slice(0, 0, 0, 1, 3);
    int none = x.slice(0, 0, 0, 1, 0);
    dueThrow(ARGUMENT, () -> x.act(0, 0, row, 1));
    dueThrow(ARGUMENT, () -> x.act(0, row, 0, 1));
    dueThrow(ARGUMENT, () -> x.act(0, 0, 0, 1));
    dueThrow(ARGUMENT, () -> x.act(0, 1, row, row));
    dueThrow(ARGUMENT, () -> x.act(0, row, 1, row));
    dueThrow(ARGUMENT, () -> x.act(0, none, row, 1));
    dueThrow(ARGUMENT, () -> x.act(0, row, none, 1));
    items(x, 0, 0, 1, 2, 3, 4, 5);
    due(6, x.act(0, x.slice(row, 0, 1, 1, 1), row, 1));
    items(x, 0, 1, 2, 3, 1, 2, 3);
  }

  private static void actFixed() {
    StrideViews x = table();
    int row = x.slice(0, 0, 1, 1, 3);
    int wide = x.spread(row, 0, 2);
    int none = x.slice(0, 0, 0, 1, 0);
    dueThrow(STATE, () -> x.act(0, row, row, wide));
    dueThrow(STATE, () -> x.act(0, wide, wide, wide));
    dueThrow(STATE, () -> x.act(0, none, none, x.spread(none, 0, 2)));
    items(x, 0, 0, 1, 2, 3, 4, 5);
    due(3, x.act(0, row, row, x.spread(row, 0, 1)));
    due(0, x.act(0, none, none, x.spread(none, 0, 1)));
  }

  private static void foldStore() {
    StrideViews x = counted(0, 12);
    int cube = x.shape(0, 2, 3, 2);
    x.fold(0, cube, 0);
    x.fold(0, cube, 1);
    x.fold(0, 0, 0);
    int[][] want = {{3, 6, 1}, {3, 4, 1}, {3, 1, 1}};
    for (int s = 0; s < 3; s++) {
      for (int what = 0; what < 3; what++) due(want[s][what], x.stored(s + 1, what));
    }
    x.put(2, 0, Long.MIN_VALUE);
    due(Long.MIN_VALUE, x.at(2, 0));
    due(0, x.at(0, 0));
  }

  private static void foldView() {
    StrideViews x = counted(0, 12);
    int cube = x.shape(0, 2, 3, 2);
    due(2, x.fold(0, cube, 0));
    due(3, x.fold(0, cube, 1));
    due(4, x.fold(0, cube, 2));
    lies(x, 2, 0, 3, 2, 2, 1);
    lies(x, 3, 0, 2, 2, 2, 1);
    lies(x, 4, 0, 2, 3, 3, 1);
    for (int v = 2; v < 5; v++) due(v - 1, x.told(v, 0));
    lies(x, x.fold(0, 0, 0), 0);
    lies(x, x.fold(0, x.spread(cube, 1, 4), 2), 0, 2, 8, 4, 2, 2, 1);
    due(0, x.told(7, 4));
    lies(x, x.fold(0, x.shape(0, 1, 12, 1), 1), 0, 1, 0, 1, 0);
    int back = x.slice(0, 0, 11, -1, 12);
    lies(x, x.fold(0, x.shape(back, 3, 4, NONE), 1), 0, 3, 1);
  }

  private static void foldAlong() {
    StrideViews x = counted(0, 12);
    x.put(0, 0, -100);
    int cube = x.shape(0, 2, 3, 2);
    items(x, x.fold(0, cube, 0), -94, 8, 10, 12, 14, 16);
    items(x, x.fold(0, cube, 1), -94, 9, 24, 27);
    items(x, x.fold(0, cube, 2), -99, 5, 9, 13, 17, 21);
    items(x, x.fold(2, cube, 1), -800, 15, 480, 693);
    items(x, x.fold(3, cube, 2), 1, 3, 5, 7, 9, 11);
    items(x, x.fold(4, cube, 2), -100, 2, 4, 6, 8, 10);
    items(x, x.fold(0, 0, 0), -34);
    int back = x.slice(cube, 1, 2, -1, 3);
    items(x, x.fold(0, x.turn(back, 0, 2), 0), 9, 21, 5, 17, -99, 13);
    items(x, x.fold(4, x.spread(0, 0, 4), 0), -100, 1, 2, 3, 4, 5, 6, 7, 8, 9, 10, 11);
    items(x, x.fold(0, x.slice(cube, 1, 1, 1, 1), 1), 2, 3, 8, 9);
  }

  private static void foldOf64Bits() {
    StrideViews x = new StrideViews();
    x.store(3, 2);
    x.put(0, 0, Long.MAX_VALUE);
    x.put(0, 1, Long.MAX_VALUE);
    items(x, x.fold(0, 0, 0), -2);
    items(x, x.fold(2, 0, 0), 1);
    items(x, x.fold(4, 0, 0), Long.MAX_VALUE);
    x.put(0, 0, Long.MIN_VALUE);
    x.put(0, 1, Long.MIN_VALUE);
    items(x, x.fold(3, 0, 0), Long.MIN_VALUE);
    int small = x.store(0, 1);
    x.put(small, 0, -128);
    items(x, x.fold(0, x.spread(small, 0, 3000), 0), -384000);
    items(x, x.fold(2, x.spread(small, 0, 9), 0), Long.MIN_VALUE);
  }

  private static void foldWithoutItems() {
    StrideViews y = counted(0, 3);
    int none = y.slice(y.shape(0, 3, 1, NONE), 1, 0, 1, 0);
    long[] empty = {0, 0, 1, Long.MIN_VALUE, Long.MAX_VALUE};
    for (int act : new int[] {0, 2, 3, 4}) {
      int along = y.fold(act, none, 1);
      items(y, along, empty[act], empty[act], empty[act]);
      lies(y, along, 0, 3, 1);
      lies(y, y.fold(act, none, 0), 0, 0, 0);
    }
    items(y, y.fold(3, y.slice(0, 0, 0, 1, 0), 0), Long.MIN_VALUE);
  }

  private static void foldIndexes() {
    StrideViews x = table();
    for (int view : new int[] {-1, 2, MAX, MIN}) dueThrow(INDEX, () -> x.fold(0, view, 0));
    for (int axis : new int[] {-1, 2, MAX, MIN}) dueThrow(INDEX, () -> x.fold(0, 1, axis));
    int bare = x.pick(0, 0, 0);
    dueThrow(INDEX, () -> x.fold(0, bare, 0));
    due(1, x.count(0));
  }

  private static void foldNoSuch() {
    StrideViews x = table();
    for (int act : new int[] {-1, 1, 5, MAX, MIN}) dueThrow(ARGUMENT, () -> x.fold(act, 1, 0));
    due(1, x.count(0));
    due(2, x.count(1));
    for (int act : new int[] {0, 2, 3, 4}) x.fold(act, 1, 0);
    due(5, x.count(0));
  }

  private static void foldTooMuch() {
    StrideViews z = counted(0, 3);
    int fit = z.spread(0, 0, 300);
    due(300, z.told(z.fold(0, fit, 1), 3));
    int over = z.spread(0, 0, 301);
    dueThrow(STATE, () -> z.fold(0, over, 1));
    // It is the others that are counted, not all of them.
    items(z, z.fold(0, over, 0), 0, 301, 602);
    int lot = z.spread(z.spread(z.spread(z.slice(0, 0, 0, 1, 0), 0, 4194304), 0, 2097152), 0, 2097152);
    dueThrow(STATE, () -> z.fold(0, lot, 3));
    int pair = z.spread(z.spread(z.slice(0, 0, 0, 1, 0), 0, 65536), 0, 65536);
    dueThrow(STATE, () -> z.fold(0, pair, 2));
    int row = z.spread(z.slice(0, 0, 0, 1, 0), 0, 301);
    dueThrow(STATE, () -> z.fold(0, row, 1));
    due(300, z.told(z.fold(0, z.slice(row, 0, 0, 1, 300), 1), 3));
    lies(z, z.fold(0, lot, 1), 0, 2097152, 0, 4194304, 0, 0, 0);
    due(5, z.count(0));
  }

  private static void foldState() {
    dueLastStore(x -> x.fold(0, 1, 0));
    dueLastView(x -> x.fold(0, 1, 0));
    StrideViews full = fullOfStores();
    int none = full.slice(1, 0, 0, 1, 0);
    dueThrow(STATE, () -> full.fold(0, none, 1));
  }

  public static void main(String[] args) {
    String p = "Promise 10";
    sentence(p, "Item i.", NumberTests::atItem);
    sentence(p, "IndexOutOfBounds", NumberTests::atIndexes);
    p = "Promise 11";
    sentence(p, "Item i is put", NumberTests::putItem);
    sentence(p, "what it was", NumberTests::putWhatItWas);
    sentence(p, "IndexOutOfBounds", NumberTests::putIndexes);
    sentence(p, "IllegalState: the view is FIXED", NumberTests::putFixed);
    p = "Promise 12";
    sentence(p, "Items of one view are put to those of another, to which it GOES", NumberTests::copyItems);
    sentence(p, "how many are other numbers then", NumberTests::copyOthers);
    sentence(p, "IndexOutOfBounds", NumberTests::copyIndexes);
    sentence(p, "IllegalArgument: it doesn't", NumberTests::copyDoesNotGo);
    sentence(p, "IllegalState: to is FIXED", NumberTests::copyFixed);
    p = "Promise 13";
    sentence(p, "Items become a's by b's, both GO TO it", NumberTests::actBoth);
    sentence(p, "act 0 the sum", NumberTests::actSum);
    sentence(p, "1 a less b", NumberTests::actLess);
    sentence(p, "2 the product", NumberTests::actProduct);
    sentence(p, "3 the greater", NumberTests::actGreater);
    sentence(p, "4 the less one", NumberTests::actLesser);
    sentence(p, "(of 64 bits)", NumberTests::actOf64Bits);
    sentence(p, "How many are other numbers then.", NumberTests::actOthers);
    sentence(p, "IndexOutOfBounds: a, b, to", NumberTests::actIndexes);
    sentence(p, "IllegalArgument: the act", NumberTests::actNoSuch);
    sentence(p, "a, or b, doesn't GO", NumberTests::actDoesNotGo);
    sentence(p, "IllegalState: to is FIXED", NumberTests::actFixed);
    p = "Promise 14";
    sentence(p, "A new store of LANE 3", NumberTests::foldStore);
    sentence(p, "a view of it with the other AXES (its number)", NumberTests::foldView);
    sentence(p, "along an AXIS the sum (act 0), the product (2), the greatest (3), the least (4)",
        NumberTests::foldAlong);
    sentence(p, "LANE 3", NumberTests::foldOf64Bits);
    sentence(p, "without items 0, 1, the least long, the greatest", NumberTests::foldWithoutItems);
    sentence(p, "IndexOutOfBounds", NumberTests::foldIndexes);
    sentence(p, "IllegalArgument", NumberTests::foldNoSuch);
    sentence(p, "also, more than 300 items", NumberTests::foldTooMuch);
    sentence(p, "IllegalState", NumberTests::foldState);
    end();
  }
}
