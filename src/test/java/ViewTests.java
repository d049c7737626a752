/** The sentences of promises 1 to 9, which make stores and views: a test for each. */
public final class ViewTests extends Checks {
  private static void newObject() {
    StrideViews x = new StrideViews();
    due(0, x.count(0));
    due(0, x.count(1));
    dueThrow(INDEX, () -> x.told(0, 0));
    dueThrow(INDEX, () -> x.stored(0, 0));
    x.store(0, 1);
    StrideViews y = new StrideViews();
    due(0, y.count(0));
    due(0, y.count(1));
    due(0, y.store(0, 2));
    due(1, x.stored(0, 1));
  }

  private static void storeAndItsView() {
    StrideViews x = new StrideViews();
    due(0, x.store(3, 300));
    due(1, x.store(0, 0));
    due(2, x.store(1, 1));
    due(3, x.store(2, 2));
    lies(x, 0, 0, 300, 1);
    lies(x, 1, 0, 0, 0);
    lies(x, 2, 0, 1, 0);
    lies(x, 3, 0, 2, 1);
    for (int s = 0; s < 4; s++) {
      due(s, x.told(s, 0));
      due(1, x.stored(s, 2));
    }
    x.turn(0, 0, 0);
    due(5, x.store(0, 1));
    due(4, x.told(5, 0));
  }

  private static void storeArguments() {
    StrideViews x = new StrideViews();
    for (int lane : new int[] {-1, 4, MAX, MIN}) dueThrow(ARGUMENT, () -> x.store(lane, 1));
    for (int n : new int[] {-1, 301, MAX, MIN}) dueThrow(ARGUMENT, () -> x.store(0, n));
    due(0, x.count(0));
    due(0, x.count(1));
    for (int lane = 0; lane < 4; lane++) {
      due(lane, x.stored(x.store(lane, 0), 0));
    }
    due(300, x.stored(x.store(0, 300), 1));
  }

  private static void storeState() {
    dueLastStore(x -> x.store(0, 5));
    dueLastStore(x -> x.store(0, 0));
    dueLastView(x -> x.store(0, 5));
    dueLastView(x -> x.store(0, 0));
  }

  private static void slicePart() {
    StrideViews x = counted(2, 12);
    lies(x, x.slice(0, 0, 2, 3, 4), 2, 4, 3);
    items(x, 1, 2, 5, 8, 11);
    lies(x, x.slice(0, 0, 11, -11, 2), 11, 2, -11);
    items(x, 2, 11, 0);
    lies(x, x.slice(1, 0, 3, -1, 4), 11, 4, -3);
    items(x, 3, 11, 8, 5, 2);
    lies(x, x.slice(3, 0, 1, 2, 2), 8, 2, -6);
    lies(x, x.slice(0, 0, 0, 1, 12), 0, 12, 1);
    int cube = x.shape(0, 2, 2, 3);
    lies(x, cube, 0, 2, 6, 2, 3, 3, 1);
    lies(x, x.slice(cube, 0, 1, -1, 2), 6, 2, -6, 2, 3, 3, 1);
    lies(x, x.slice(cube, 2, 2, -1, 3), 2, 2, 6, 2, 3, 3, -1);
    lies(x, x.slice(cube, 1, 1, 1, 1), 3, 2, 6, 1, 0, 3, 1);
    int wide = x.spread(cube, 0, 5);
    lies(x, x.slice(wide, 0, 4, -2, 3), 0, 3, 0, 2, 6, 2, 3, 3, 1);
    x.put(x.slice(0, 0, 10, -2, 3), 1, 77);
    due(77, x.at(0, 8));
    due(10, x.told(x.count(1) - 1, 1));
  }

  private static void sliceIndexes() {
    StrideViews x = counted(2, 12);
    for (int view : new int[] {-1, 1, MAX, MIN}) dueThrow(INDEX, () -> x.slice(view, 0, 0, 1, 1));
    for (int axis : new int[] {-1, 1, 4, MAX, MIN}) dueThrow(INDEX, () -> x.slice(0, axis, 0, 1, 1));
    int bare = x.pick(0, 0, 0);
    dueThrow(INDEX, () -> x.slice(bare, 0, 0, 1, 1));
    due(2, x.count(1));
  }

  private static void sliceBelowNought() {
    StrideViews x = counted(2, 12);
    for (int n : new int[] {-1, -12, MIN}) {
      dueThrow(ARGUMENT, () -> x.slice(0, 0, 0, 1, n));
      dueThrow(ARGUMENT, () -> x.slice(0, 0, 11, -1, n));
    }
    lies(x, x.slice(0, 0, 0, 1, 0), 0, 0, 0);
  }

  private static void sliceStepNought() {
    StrideViews x = counted(2, 12);
    dueThrow(ARGUMENT, () -> x.slice(0, 0, 0, 0, 2));
    dueThrow(ARGUMENT, () -> x.slice(0, 0, 0, 0, 1));
    dueThrow(ARGUMENT, () -> x.slice(0, 0, 0, 0, 0));
    due(1, x.slice(0, 0, 0, 1, 0));
    due(2, x.slice(0, 0, 1, -1, 2));
  }

  private static void sliceOutside() {
    StrideViews x = counted(2, 12);
    // The first index.
    lies(x, x.slice(0, 0, 0, 7, 1), 0, 1, 0);
    lies(x, x.slice(0, 0, 11, MAX, 1), 11, 1, 0);
    lies(x, x.slice(0, 0, 11, MIN, 1), 11, 1, 0);
    for (int start : new int[] {-1, 12, MAX, MIN}) dueThrow(ARGUMENT, () -> x.slice(0, 0, start, 1, 1));
    dueThrow(ARGUMENT, () -> x.slice(0, 0, -1, 1, 2));
    dueThrow(ARGUMENT, () -> x.slice(0, 0, 12, -1, 2));
    // The last one.
    lies(x, x.slice(0, 0, 2, 3, 4), 2, 4, 3);
    dueThrow(ARGUMENT, () -> x.slice(0, 0, 3, 3, 4));
    lies(x, x.slice(0, 0, 9, -3, 4), 9, 4, -3);
    dueThrow(ARGUMENT, () -> x.slice(0, 0, 8, -3, 4));
    dueThrow(ARGUMENT, () -> x.slice(0, 0, 0, 1, 13));
    dueThrow(ARGUMENT, () -> x.slice(0, 0, 11, -1, 13));
    dueThrow(ARGUMENT, () -> x.slice(0, 0, 0, -1, 2));
    dueThrow(ARGUMENT, () -> x.slice(0, 0, 0, 12, 2));
    dueThrow(ARGUMENT, () -> x.slice(0, 0, 11, -12, 2));
    // The last index is far away, but its lowest 32 bits are not.
    dueThrow(ARGUMENT, () -> x.slice(0, 0, 0, 1073741824, 5));
    dueThrow(ARGUMENT, () -> x.slice(0, 0, 0, MIN, 3));
    dueThrow(ARGUMENT, () -> x.slice(0, 0, 3, MAX, 3));
    dueThrow(ARGUMENT, () -> x.slice(0, 0, 0, MAX, MAX));
    dueThrow(ARGUMENT, () -> x.slice(0, 0, 11, MIN, MAX));
    // Along the axis itself, not along its store.
    int table = x.shape(0, 3, 4, NONE);
    dueThrow(ARGUMENT, () -> x.slice(table, 0, 3, 1, 1));
    dueThrow(ARGUMENT, () -> x.slice(table, 1, 4, 1, 1));
    lies(x, x.slice(table, 1, 3, 1, 1), 3, 3, 4, 1, 0);
  }

  private static void sliceOfNone() {
    StrideViews x = counted(2, 12);
    for (int start : new int[] {0, 11, 12, -1, -5, MAX, MIN}) {
      lies(x, x.slice(0, 0, start, 1, 0), 0, 0, 0);
      lies(x, x.slice(0, 0, start, MIN, 0), 0, 0, 0);
    }
    int none = x.count(1) - 1;
    lies(x, x.slice(none, 0, 0, 1, 0), 0, 0, 0);
    dueThrow(ARGUMENT, () -> x.slice(none, 0, 0, 1, 1));
    int table = x.shape(0, 3, 4, NONE);
    lies(x, x.slice(table, 1, 99, 1, 0), 0, 3, 0, 0, 0);
    lies(x, x.slice(x.count(1) - 1, 0, 2, -1, 3), 0, 3, 0, 0, 0);
  }

  private static void sliceState() {
    dueLastView(x -> x.slice(1, 0, 0, 1, 1));
    dueLastView(x -> x.slice(1, 0, 0, 1, 0));
  }

  private static void pickWithout() {
    StrideViews x = counted(2, 12);
    int table = x.shape(0, 3, 4, NONE);
    lies(x, x.pick(table, 0, 0), 0, 4, 1);
    lies(x, x.pick(table, 0, 2), 8, 4, 1);
    lies(x, x.pick(table, 1, 3), 3, 3, 4);
    items(x, 4, 3, 7, 11);
    lies(x, x.pick(4, 0, 1), 7);
    items(x, 5, 7);
    int back = x.slice(0, 0, 11, -1, 12);
    lies(x, x.pick(back, 0, 4), 7);
    int four = x.spread(x.shape(0, 2, 3, 2), 2, 5);
    lies(x, x.pick(four, 1, 2), 4, 2, 6, 5, 0, 2, 1);
    lies(x, x.pick(four, 2, 4), 0, 2, 6, 3, 2, 2, 1);
    int none = x.slice(table, 0, 0, 1, 0);
    lies(x, x.pick(none, 1, 3), 0, 0, 0);
  }

  private static void pickIndexes() {
    StrideViews x = table();
    for (int view : new int[] {-1, 2, MAX, MIN}) dueThrow(INDEX, () -> x.pick(view, 0, 0));
    for (int axis : new int[] {-1, 2, MAX, MIN}) dueThrow(INDEX, () -> x.pick(1, axis, 0));
    for (int index : new int[] {-1, 2, MAX, MIN}) dueThrow(INDEX, () -> x.pick(1, 0, index));
    for (int index : new int[] {-1, 3, MAX, MIN}) dueThrow(INDEX, () -> x.pick(1, 1, index));
    int none = x.slice(1, 0, 0, 1, 0);
    dueThrow(INDEX, () -> x.pick(none, 0, 0));
    int bare = x.pick(0, 0, 0);
    dueThrow(INDEX, () -> x.pick(bare, 0, 0));
    due(4, x.count(1));
  }

  private static void pickState() {
    dueLastView(x -> x.pick(1, 0, 0));
  }

  private static void turnTwo() {
    StrideViews x = counted(2, 12);
    int cube = x.shape(0, 2, 3, 2);
    lies(x, x.turn(cube, 0, 2), 0, 2, 1, 3, 2, 2, 6);
    items(x, 2, 0, 6, 2, 8, 4, 10, 1, 7, 3, 9, 5, 11);
    lies(x, x.turn(cube, 1, 0), 0, 3, 2, 2, 6, 2, 1);
    lies(x, x.turn(cube, 0, 1), 0, 3, 2, 2, 6, 2, 1);
    lies(x, x.turn(x.slice(0, 0, 5, 1, 3), 0, 0), 5, 3, 1);
    int four = x.spread(cube, 0, 5);
    lies(x, x.turn(four, 3, 0), 0, 2, 1, 2, 6, 3, 2, 5, 0);
    // One axis and itself: another view, with nothing else about it.
    lies(x, x.turn(cube, 1, 1), 0, 2, 6, 3, 2, 2, 1);
    due(10, x.count(1));
  }

  private static void turnIndexes() {
    StrideViews x = table();
    for (int view : new int[] {-1, 2, MAX, MIN}) dueThrow(INDEX, () -> x.turn(view, 0, 1));
    for (int axis : new int[] {-1, 2, MAX, MIN}) {
      dueThrow(INDEX, () -> x.turn(1, 0, axis));
      dueThrow(INDEX, () -> x.turn(1, axis, 0));
      dueThrow(INDEX, () -> x.turn(1, axis, axis));
    }
    due(2, x.count(1));
  }

  private static void turnState() {
    dueLastView(x -> x.turn(1, 0, 1));
    dueLastView(x -> x.turn(1, 0, 0));
  }

  private static void spreadAhead() {
    StrideViews x = counted(2, 3);
    lies(x, x.spread(0, 0, 2), 0, 2, 0, 3, 1);
    items(x, 1, 0, 1, 2, 0, 1, 2);
    lies(x, x.spread(0, 1, 2), 0, 3, 1, 2, 0);
    items(x, 2, 0, 0, 1, 1, 2, 2);
    lies(x, x.spread(1, 1, 5), 0, 2, 0, 5, 0, 3, 1);
    lies(x, x.spread(3, 3, 7), 0, 2, 0, 5, 0, 3, 1, 7, 0);
    due(210, x.told(4, 3));
    int back = x.slice(0, 0, 2, -1, 2);
    lies(x, x.spread(back, 1, 4), 2, 2, -1, 4, 0);
    lies(x, x.spread(x.pick(0, 0, 2), 0, 3), 2, 3, 0);
  }

  private static void spreadTimes() {
    StrideViews x = counted(2, 3);
    int last = x.slice(0, 0, 2, 1, 1);
    lies(x, x.spread(last, 0, 0), 0, 0, 0, 1, 0);
    lies(x, x.spread(last, 0, 1), 2, 1, 0, 1, 0);
    lies(x, x.spread(last, 0, 2), 2, 2, 0, 1, 0);
    lies(x, x.spread(0, 1, 0), 0, 3, 0, 0, 0);
    due(0, x.told(3, 4));
    due(1, x.told(4, 4));
  }

  private static void spreadIndexes() {
    StrideViews x = table();
    int four = x.spread(x.spread(1, 0, 1), 0, 1);
    for (int view : new int[] {-1, 4, MAX, MIN}) dueThrow(INDEX, () -> x.spread(view, 0, 1));
    for (int axis : new int[] {-1, 3, MAX, MIN}) dueThrow(INDEX, () -> x.spread(1, axis, 1));
    dueThrow(INDEX, () -> x.spread(four, 5, 1));
    int bare = x.pick(0, 0, 0);
    dueThrow(INDEX, () -> x.spread(bare, 1, 1));
    due(5, x.count(1));
    due(5, x.spread(1, 0, 1));
    due(6, x.spread(1, 2, 1));
    due(7, x.spread(bare, 0, 1));
  }

  private static void spreadBelowNought() {
    StrideViews x = table();
    dueThrow(ARGUMENT, () -> x.spread(1, 0, -1));
    dueThrow(ARGUMENT, () -> x.spread(1, 2, MIN));
    int none = x.slice(0, 0, 0, 1, 0);
    dueThrow(ARGUMENT, () -> x.spread(none, 0, -1));
    due(0, x.told(x.spread(1, 0, 0), 3));
  }

  private static void spreadFour() {
    StrideViews x = table();
    int three = x.spread(1, 0, 2);
    int four = x.spread(three, 0, 1);
    due(4, x.told(four, 2));
    for (int axis = 0; axis < 5; axis++) {
      int ahead = axis;
      dueThrow(STATE, () -> x.spread(four, ahead, 1));
    }
    dueThrow(STATE, () -> x.spread(four, 0, 0));
    due(4, x.count(1));
  }

  private static void spreadState() {
    StrideViews x = counted(2, 3);
    int last = x.slice(0, 0, 2, 1, 1);
    due(3000, x.told(x.spread(0, 0, 1000), 3));
    dueThrow(STATE, () -> x.spread(0, 0, 1001));
    dueThrow(STATE, () -> x.spread(last, 0, 3001));
    dueThrow(STATE, () -> x.spread(0, 0, 1431655766));
    dueThrow(STATE, () -> x.spread(2, 0, MAX));
    int none = x.slice(0, 0, 0, 1, 0);
    lies(x, x.spread(none, 1, MAX), 0, 0, 0, MAX, 0);
    dueLastView(y -> y.spread(1, 0, 1));
    dueLastView(y -> y.spread(1, 2, 0));
  }

  private static void diagonalLast() {
    StrideViews x = counted(2, 24);
    int cube = x.shape(0, 2, 3, 4);
    lies(x, x.diagonal(cube, 0, 1), 0, 4, 1, 2, 16);
    lies(x, x.diagonal(cube, 1, 0), 0, 4, 1, 2, 16);
    lies(x, x.diagonal(cube, 2, 0), 0, 3, 4, 2, 13);
    lies(x, x.diagonal(cube, 1, 2), 0, 2, 12, 3, 5);
    int four = x.spread(cube, 1, 2);
    lies(x, x.diagonal(four, 0, 2), 0, 2, 0, 4, 1, 2, 16);
    lies(x, x.diagonal(four, 3, 0), 0, 2, 0, 3, 4, 2, 13);
    lies(x, x.diagonal(x.shape(0, 4, 6, NONE), 0, 1), 0, 4, 7);
  }

  private static void diagonalIndex() {
    StrideViews x = counted(2, 24);
    int cube = x.shape(0, 2, 3, 4);
    items(x, x.diagonal(cube, 2, 0), 0, 13, 4, 17, 8, 21);
    int back = x.slice(cube, 2, 3, -1, 4);
    lies(x, x.diagonal(back, 1, 2), 3, 2, 12, 3, 3);
    items(x, 4, 3, 6, 9, 15, 18, 21);
    int wide = x.spread(0, 1, 5);
    lies(x, x.diagonal(wide, 0, 1), 0, 5, 1);
    due(0, x.told(6, 4));
  }

  private static void diagonalShorter() {
    StrideViews x = counted(2, 24);
    int cube = x.shape(0, 2, 3, 4);
    lies(x, x.diagonal(cube, 0, 2), 0, 3, 4, 2, 13);
    lies(x, x.diagonal(x.turn(cube, 0, 2), 0, 2), 0, 3, 4, 2, 13);
    lies(x, x.diagonal(x.slice(cube, 2, 0, 1, 3), 1, 2), 0, 2, 12, 3, 5);
    int thin = x.slice(cube, 1, 2, 1, 1);
    lies(x, x.diagonal(thin, 1, 2), 8, 2, 12, 1, 0);
    lies(x, x.diagonal(thin, 2, 1), 8, 2, 12, 1, 0);
    int none = x.slice(cube, 1, 0, 1, 0);
    lies(x, x.diagonal(none, 1, 2), 0, 2, 0, 0, 0);
    lies(x, x.diagonal(none, 2, 1), 0, 2, 0, 0, 0);
    lies(x, x.diagonal(none, 0, 2), 0, 0, 0, 2, 0);
  }

  private static void diagonalIndexes() {
    StrideViews x = table();
    for (int view : new int[] {-1, 2, MAX, MIN}) dueThrow(INDEX, () -> x.diagonal(view, 0, 1));
    for (int axis : new int[] {-1, 2, MAX, MIN}) {
      dueThrow(INDEX, () -> x.diagonal(1, 0, axis));
      dueThrow(INDEX, () -> x.diagonal(1, axis, 0));
    }
    dueThrow(INDEX, () -> x.diagonal(0, 0, 1));
    due(2, x.count(1));
  }

  private static void diagonalOne() {
    StrideViews x = table();
    dueThrow(ARGUMENT, () -> x.diagonal(1, 0, 0));
    dueThrow(ARGUMENT, () -> x.diagonal(1, 1, 1));
    dueThrow(ARGUMENT, () -> x.diagonal(0, 0, 0));
    due(2, x.count(1));
  }

  private static void diagonalState() {
    dueLastView(x -> x.diagonal(1, 0, 1));
  }

  private static void shapeSameItems() {
    StrideViews x = counted(2, 12);
    lies(x, x.shape(0, 3, 4, NONE), 0, 3, 4, 4, 1);
    lies(x, x.shape(1, 2, 2, 3), 0, 2, 6, 2, 3, 3, 1);
    lies(x, x.shape(2, 12, NONE, NONE), 0, 12, 1);
    lies(x, x.shape(1, 12, 1, NONE), 0, 12, 1, 1, 0);
    int turned = x.turn(1, 0, 1);
    lies(x, x.shape(turned, 2, 2, 3), 0, 2, 2, 2, 1, 3, 4);
    lies(x, x.shape(turned, 4, 1, 3), 0, 4, 1, 1, 0, 3, 4);
    int back = x.slice(0, 0, 11, -2, 6);
    lies(x, x.shape(back, 2, 3, NONE), 11, 2, -6, 3, -2);
    int wide = x.spread(x.slice(0, 0, 3, 1, 2), 1, 6);
    lies(x, x.shape(wide, 2, 2, 3), 3, 2, 1, 2, 0, 3, 0);
    int lines = x.slice(1, 0, 2, -2, 2);
    lies(x, x.shape(lines, 2, 2, 2), 8, 2, -8, 2, 2, 2, 1);
    x.put(x.shape(back, 3, 2, NONE), 5, 50);
    due(50, x.at(0, 1));
  }

  private static void shapeNone() {
    StrideViews x = counted(2, 12);
    lies(x, x.shape(0, NONE, NONE, 12), 0, 12, 1);
    lies(x, x.shape(0, NONE, 12, NONE), 0, 12, 1);
    lies(x, x.shape(0, NONE, 6, 2), 0, 6, 2, 2, 1);
    lies(x, x.shape(0, 6, NONE, 2), 0, 6, 2, 2, 1);
    int one = x.slice(0, 0, 7, 1, 1);
    lies(x, x.shape(one, NONE, NONE, NONE), 7);
    int bare = x.count(1) - 1;
    lies(x, x.shape(bare, 1, 1, 1), 7, 1, 0, 1, 0, 1, 0);
    lies(x, x.shape(bare, NONE, NONE, NONE), 7);
    dueThrow(ARGUMENT, () -> x.shape(0, NONE, NONE, NONE));
    int none = x.slice(0, 0, 0, 1, 0);
    dueThrow(ARGUMENT, () -> x.shape(none, NONE, NONE, NONE));
  }

  private static void shapeIndexes() {
    StrideViews x = table();
    for (int view : new int[] {-1, 2, MAX, MIN}) dueThrow(INDEX, () -> x.shape(view, 6, NONE, NONE));
    due(2, x.count(1));
  }

  private static void shapeBelowNone() {
    StrideViews x = counted(2, 12);
    for (int below : new int[] {-2, -12, MIN}) {
      dueThrow(ARGUMENT, () -> x.shape(0, below, 12, NONE));
      dueThrow(ARGUMENT, () -> x.shape(0, 12, below, NONE));
      dueThrow(ARGUMENT, () -> x.shape(0, 12, NONE, below));
    }
    // Two of them would make the right number.
    dueThrow(ARGUMENT, () -> x.shape(0, -2, -6, NONE));
    dueThrow(ARGUMENT, () -> x.shape(0, NONE, -2, -6));
    dueThrow(ARGUMENT, () -> x.shape(0, -4, NONE, -3));
    int none = x.slice(0, 0, 0, 1, 0);
    dueThrow(ARGUMENT, () -> x.shape(none, -2, 0, NONE));
    dueThrow(ARGUMENT, () -> x.shape(none, 0, -2, NONE));
    dueThrow(ARGUMENT, () -> x.shape(none, 0, NONE, -2));
    due(2, x.count(1));
  }

  private static void shapeOtherNumber() {
    StrideViews x = counted(2, 12);
    for (int n : new int[] {0, 1, 11, 13, MAX}) dueThrow(ARGUMENT, () -> x.shape(0, n, NONE, NONE));
    dueThrow(ARGUMENT, () -> x.shape(0, 12, 0, NONE));
    dueThrow(ARGUMENT, () -> x.shape(0, 3, 4, 2));
    dueThrow(ARGUMENT, () -> x.shape(0, 2, 3, 1));
    int turned = x.turn(x.shape(0, 3, 4, NONE), 0, 1);
    dueThrow(ARGUMENT, () -> x.shape(turned, 5, 2, NONE));
    int most = x.spread(x.pick(0, 0, 7), 0, 3000);
    lies(x, x.shape(most, 1, 30, 100), 7, 1, 0, 30, 0, 100, 0);
    dueThrow(ARGUMENT, () -> x.shape(most, 30, 100, 2));
    // Their products have the lowest 32 bits of 12, of 0, and the lowest 64 of 0.
    dueThrow(ARGUMENT, () -> x.shape(0, 4, 1073741827, NONE));
    int none = x.slice(0, 0, 0, 1, 0);
    dueThrow(ARGUMENT, () -> x.shape(none, 65536, 65536, NONE));
    dueThrow(ARGUMENT, () -> x.shape(none, 2097152, 2097152, 4194304));
    dueThrow(ARGUMENT, () -> x.shape(none, 1, NONE, NONE));
    lies(x, x.shape(none, MAX, 5, 0), 0, MAX, 0, 5, 0, 0, 0);
    lies(x, x.shape(none, 0, MAX, MAX), 0, 0, 0, MAX, 0, MAX, 0);
    lies(x, x.shape(none, NONE, 0, NONE), 0, 0, 0);
  }

  private static void shapeNoSteps() {
    StrideViews x = counted(2, 12);
    int table = x.shape(0, 3, 4, NONE);
    int turned = x.turn(table, 0, 1);
    dueThrow(STATE, () -> x.shape(turned, 12, NONE, NONE));
    dueThrow(STATE, () -> x.shape(turned, 2, 6, NONE));
    dueThrow(STATE, () -> x.shape(turned, 3, 4, NONE));
    due(3, x.shape(turned, 4, 3, NONE));
    int wide = x.spread(x.slice(0, 0, 3, 1, 2), 1, 6);
    dueThrow(STATE, () -> x.shape(wide, 12, NONE, NONE));
    dueThrow(STATE, () -> x.shape(wide, 3, 4, NONE));
    int part = x.slice(table, 1, 0, 1, 3);
    dueThrow(STATE, () -> x.shape(part, 9, NONE, NONE));
    // 1, 0, 3, 2: the first two alone do not tell.
    int square = x.shape(x.slice(0, 0, 0, 1, 4), 2, 2, NONE);
    int bent = x.slice(square, 1, 1, -1, 2);
    dueThrow(STATE, () -> x.shape(bent, 4, NONE, NONE));
    due(10, x.shape(bent, 2, 1, 2));
    due(11, x.count(1));
  }

  private static void shapeState() {
    dueLastView(x -> x.shape(1, 6, NONE, NONE));
  }

  private static void compactItems() {
    StrideViews x = counted(3, 12);
    x.put(0, 0, 300);
    x.put(0, 4, -129);
    int turned = x.turn(x.shape(0, 3, 4, NONE), 1, 0);
    due(3, x.compact(turned, 0));
    items(x, 3, 44, 127, 8, 1, 5, 9, 2, 6, 10, 3, 7, 11);
    due(0, x.stored(1, 0));
    due(12, x.stored(1, 1));
    items(x, x.compact(turned, 3), 300, -129, 8, 1, 5, 9, 2, 6, 10, 3, 7, 11);
    due(3, x.stored(2, 0));
    items(x, x.compact(x.slice(0, 0, 3, -1, 3), 2), 3, 2, 1);
    due(3, x.stored(3, 1));
    // What is put to one of them is not put to the other.
    x.put(3, 0, 7);
    due(300, x.at(0, 0));
    x.put(0, 1, 70);
    due(1, x.at(3, 3));
    due(0, x.stored(x.told(x.compact(x.slice(0, 0, 0, 1, 0), 1), 0), 1));
  }

  private static void compactView() {
    StrideViews x = counted(3, 12);
    int turned = x.turn(x.shape(0, 3, 4, NONE), 1, 0);
    due(3, x.compact(turned, 0));
    lies(x, 3, 0, 4, 3, 3, 1);
    due(1, x.told(3, 0));
    due(1, x.stored(1, 2));
    due(4, x.compact(3, 0));
    due(2, x.told(4, 0));
    int wide = x.spread(x.slice(0, 0, 1, 1, 1), 1, 300);
    int flat = x.compact(wide, 3);
    lies(x, flat, 0, 1, 0, 300, 1);
    due(0, x.told(flat, 4));
    due(1, x.at(flat, 299));
    int bare = x.compact(x.pick(0, 0, 4), 3);
    lies(x, bare, 0);
    due(4, x.at(bare, 0));
    int four = x.spread(x.shape(0, 2, 3, 2), 1, 2);
    lies(x, x.compact(four, 0), 0, 2, 12, 2, 6, 3, 2, 2, 1);
    int none = x.slice(turned, 1, 0, 1, 0);
    lies(x, x.compact(none, 2), 0, 4, 0, 0, 0);
  }

  private static void compactIndexes() {
    StrideViews x = table();
    for (int view : new int[] {-1, 2, MAX, MIN}) dueThrow(INDEX, () -> x.compact(view, 0));
    due(1, x.count(0));
  }

  private static void compactArguments() {
    StrideViews x = table();
    for (int lane : new int[] {-1, 4, MAX, MIN}) dueThrow(ARGUMENT, () -> x.compact(1, lane));
    due(1, x.count(0));
    due(2, x.count(1));
    for (int lane = 0; lane < 4; lane++) due(lane, x.stored(x.told(x.compact(1, lane), 0), 0));
  }

  private static void compactTooMuch() {
    StrideViews x = table();
    int bare = x.pick(0, 0, 5);
    int most = x.spread(bare, 0, 300);
    int over = x.spread(bare, 0, 301);
    int lines = x.spread(1, 0, 51);
    due(300, x.stored(x.told(x.compact(most, 0), 0), 1));
    dueThrow(STATE, () -> x.compact(over, 0));
    dueThrow(STATE, () -> x.compact(lines, 0));
    dueThrow(STATE, () -> x.compact(x.spread(bare, 0, 3000), 0));
    due(2, x.count(0));
  }

  private static void compactState() {
    dueLastStore(x -> x.compact(1, 0));
    dueLastView(x -> x.compact(1, 0));
    StrideViews full = fullOfStores();
    int none = full.slice(0, 0, 0, 1, 0);
    dueThrow(STATE, () -> full.compact(none, 0));
  }

  public static void main(String[] args) {
    sentence("Promise 1", "No stores, views.", ViewTests::newObject);
    String p = "Promise 2";
    sentence(p, "A store, and a view of all of it with one AXIS: the view's number.", ViewTests::storeAndItsView);
    sentence(p, "IllegalArgument: the LANE, n", ViewTests::storeArguments);
    sentence(p, "IllegalState", ViewTests::storeState);
    p = "Promise 3";
    sentence(p, "along an AXIS n items, from index start on, by step", ViewTests::slicePart);
    sentence(p, "IndexOutOfBounds: view, AXIS", ViewTests::sliceIndexes);
    sentence(p, "n is below 0", ViewTests::sliceBelowNought);
    sentence(p, "step is 0", ViewTests::sliceStepNought);
    sentence(p, "or an index (of n above 0) would be none", ViewTests::sliceOutside);
    sentence(p, "(of n above 0)", ViewTests::sliceOfNone);
    sentence(p, "IllegalState", ViewTests::sliceState);
    p = "Promise 4";
    sentence(p, "Without an AXIS, at one index of it.", ViewTests::pickWithout);
    sentence(p, "IndexOutOfBounds: also the index", ViewTests::pickIndexes);
    sentence(p, "IllegalState", ViewTests::pickState);
    p = "Promise 5";
    sentence(p, "Two AXES change places.", ViewTests::turnTwo);
    sentence(p, "IndexOutOfBounds", ViewTests::turnIndexes);
    sentence(p, "IllegalState", ViewTests::turnState);
    p = "Promise 6";
    sentence(p, "An AXIS more, ahead of AXIS axis (or behind all)", ViewTests::spreadAhead);
    sentence(p, "n times the same", ViewTests::spreadTimes);
    sentence(p, "IndexOutOfBounds: the view, axis is not 0 .. how many", ViewTests::spreadIndexes);
    sentence(p, "IllegalArgument: n is below 0", ViewTests::spreadBelowNought);
    sentence(p, "also, it has four", ViewTests::spreadFour);
    sentence(p, "IllegalState", ViewTests::spreadState);
    p = "Promise 7";
    sentence(p, "Two AXES become one, the last AXIS", ViewTests::diagonalLast);
    sentence(p, "with the same index along both", ViewTests::diagonalIndex);
    sentence(p, "as many as the shorter one has", ViewTests::diagonalShorter);
    sentence(p, "IndexOutOfBounds", ViewTests::diagonalIndexes);
    sentence(p, "IllegalArgument: they are one", ViewTests::diagonalOne);
    sentence(p, "IllegalState", ViewTests::diagonalState);
    p = "Promise 8";
    sentence(p, "A view with the same items in the same order", ViewTests::shapeSameItems);
    sentence(p, "with AXES of these EXTENTS (NONE: no such AXIS)", ViewTests::shapeNone);
    sentence(p, "IndexOutOfBounds", ViewTests::shapeIndexes);
    sentence(p, "one is below NONE", ViewTests::shapeBelowNone);
    sentence(p, "or they make another number of items", ViewTests::shapeOtherNumber);
    sentence(p, "also, there are no STEPS by which it would be so", ViewTests::shapeNoSteps);
    sentence(p, "IllegalState", ViewTests::shapeState);
    p = "Promise 9";
    sentence(p, "A new store of a LANE with a view's items in order", ViewTests::compactItems);
    sentence(p, "a view of it with the same EXTENTS (its number)", ViewTests::compactView);
    sentence(p, "IndexOutOfBounds", ViewTests::compactIndexes);
    sentence(p, "IllegalArgument", ViewTests::compactArguments);
    sentence(p, "also, more than 300 items", ViewTests::compactTooMuch);
    sentence(p, "IllegalState", ViewTests::compactState);
    end();
  }
}
