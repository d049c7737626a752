/** The sentences of promises 15 to 21, which tell and change nothing: a test for each. */
public final class TellingTests extends Checks {
  private static void sharedPlaces() {
    StrideViews x = counted(2, 12);
    int evens = x.slice(0, 0, 0, 2, 6);
    int threes = x.slice(0, 0, 9, -3, 4);
    due(2, x.shared(evens, threes));
    due(2, x.shared(threes, evens));
    due(6, x.shared(evens, 0));
    due(6, x.shared(0, evens));
    due(12, x.shared(0, 0));
    due(0, x.shared(evens, x.slice(0, 0, 1, 2, 6)));
    due(1, x.shared(x.pick(0, 0, 6), evens));
    due(0, x.shared(x.pick(0, 0, 7), evens));
    due(1, x.shared(x.pick(0, 0, 0), threes));
    due(0, x.shared(x.slice(0, 0, 1, 1, 5), x.pick(0, 0, 0)));
    due(1, x.shared(x.slice(0, 0, 0, 1, 6), x.slice(0, 0, 5, 1, 7)));
    due(0, x.shared(x.slice(0, 0, 0, 1, 6), x.slice(0, 0, 6, 1, 6)));
    // No mark of an earlier call is left.
    due(2, x.shared(evens, threes));
    int last = x.store(0, 300);
    due(1, x.shared(last, x.pick(last, 0, 299)));
  }

  private static void sharedNotItems() {
    StrideViews x = counted(2, 12);
    int evens = x.slice(0, 0, 0, 2, 6);
    int threes = x.slice(0, 0, 9, -3, 4);
    int wide = x.spread(evens, 1, 5);
    due(6, x.shared(wide, wide));
    due(2, x.shared(threes, wide));
    due(2, x.shared(wide, threes));
    due(6, x.shared(evens, x.spread(evens, 0, 500)));
  }

  private static void sharedNone() {
    StrideViews x = counted(2, 12);
    int none = x.slice(0, 0, 0, 1, 0);
    due(0, x.shared(none, 0));
    due(0, x.shared(0, none));
    due(0, x.shared(none, none));
    // A place is one of a store: the same number in another one is another place.
    int twin = x.compact(0, 2);
    due(0, x.shared(0, twin));
    due(0, x.shared(twin, 0));
    due(12, x.shared(twin, twin));
  }

  private static void sharedIndexes() {
    StrideViews x = table();
    for (int view : new int[] {-1, 2, MAX, MIN}) {
      dueThrow(INDEX, () -> x.shared(view, 0));
      dueThrow(INDEX, () -> x.shared(0, view));
    }
  }

  private static void sameExtents() {
    StrideViews x = table();
    due(false, x.same(0, 1));
    due(false, x.same(1, 0));
    due(false, x.same(1, x.shape(0, 3, 2, NONE)));
    due(false, x.same(1, x.shape(0, 1, 2, 3)));
    due(true, x.same(1, x.shape(0, 2, 3, NONE)));
    int zeros = x.store(0, 6);
    due(false, x.same(zeros, x.slice(zeros, 0, 0, 1, 5)));
    due(false, x.same(x.slice(zeros, 0, 0, 1, 5), zeros));
    due(false, x.same(x.shape(zeros, 2, 3, NONE), x.shape(zeros, 3, 2, NONE)));
    int bare = x.pick(zeros, 0, 4);
    due(false, x.same(bare, x.slice(zeros, 0, 4, 1, 1)));
    int four = x.spread(x.spread(1, 0, 3), 2, 1);
    due(true, x.same(four, x.spread(x.spread(1, 0, 3), 2, 1)));
    due(false, x.same(four, x.spread(x.spread(1, 0, 3), 1, 1)));
    int none = x.slice(0, 0, 0, 1, 0);
    due(true, x.same(none, x.store(0, 0)));
    due(true, x.same(x.spread(none, 0, 2), x.spread(none, 0, 2)));
    due(false, x.same(none, x.spread(none, 0, 2)));
    due(false, x.same(x.spread(none, 0, 3), x.spread(none, 0, 2)));
    due(false, x.same(x.spread(none, 0, 2), x.spread(none, 1, 2)));
  }

  private static void sameNumbers() {
    StrideViews x = table();
    int other = x.compact(1, 0);
    due(true, x.same(1, other));
    due(true, x.same(other, 1));
    due(true, x.same(0, 0));
    for (int i : new int[] {0, 3, 5}) {
      long was = x.put(other, i, 44);
      due(false, x.same(1, other));
      due(false, x.same(other, 1));
      // The lowest bits are the same, but not the numbers.
      x.put(1, i, 300);
      due(false, x.same(1, other));
      x.put(1, i, was);
      x.put(other, i, was);
      due(true, x.same(1, other));
    }
    due(false, x.same(0, x.slice(0, 0, 5, -1, 6)));
    int bare = x.pick(0, 0, 5);
    due(true, x.same(bare, x.compact(bare, 0)));
    due(false, x.same(bare, x.pick(0, 0, 4)));
    due(true, x.same(x.spread(0, 0, 2), x.compact(x.spread(0, 0, 2), 3)));
  }

  private static void sameIndexes() {
    StrideViews x = table();
    for (int view : new int[] {-1, 2, MAX, MIN}) {
      dueThrow(INDEX, () -> x.same(view, 0) ? 1 : 0);
      dueThrow(INDEX, () -> x.same(0, view) ? 1 : 0);
      dueThrow(INDEX, () -> x.same(view, view) ? 1 : 0);
    }
  }

  private static void runsOfItems() {
    StrideViews x = counted(2, 12);
    int table = x.shape(0, 3, 4, NONE);
    due(1, x.runs(0));
    due(1, x.runs(table));
    due(3, x.runs(x.slice(table, 1, 0, 1, 3)));
    due(12, x.runs(x.turn(table, 0, 1)));
    due(12, x.runs(x.slice(0, 0, 11, -1, 12)));
    due(6, x.runs(x.slice(0, 0, 0, 2, 6)));
    due(2, x.runs(x.slice(table, 0, 0, 2, 2)));
    due(3, x.runs(x.slice(table, 0, 2, -1, 3)));
    due(4, x.runs(x.spread(0, 0, 4)));
    // 0, 0, 0, 0, 1, ..: the last 0 and the first 1 are of one run.
    due(12 * 4 - 11, x.runs(x.spread(0, 1, 4)));
    due(3000, x.runs(x.spread(x.pick(0, 0, 0), 0, 3000)));
  }

  private static void runsOfFew() {
    StrideViews x = counted(2, 12);
    due(0, x.runs(x.slice(0, 0, 0, 1, 0)));
    due(0, x.runs(x.store(0, 0)));
    due(1, x.runs(x.pick(0, 0, 3)));
    due(1, x.runs(x.pick(0, 0, 0)));
    due(1, x.runs(x.slice(0, 0, 11, 1, 1)));
    due(1, x.runs(x.slice(0, 0, 0, 1, 2)));
    due(2, x.runs(x.slice(0, 0, 1, -1, 2)));
    due(2, x.runs(x.slice(0, 0, 0, 2, 2)));
  }

  private static void runsIndexes() {
    StrideViews x = table();
    for (int view : new int[] {-1, 2, MAX, MIN}) dueThrow(INDEX, () -> x.runs(view));
  }

  private static void tells(StrideViews x, int view, int... want) {
    for (int what = 0; what < want.length; what++) due(want[what], x.told(view, what));
  }

  private static void toldOfView() {
    StrideViews x = counted(2, 12);
    int other = x.store(0, 12);
    int table = x.shape(other, 3, 4, NONE);
    tells(x, 0, 0, 0, 1, 12);
    tells(x, other, 1, 0, 1, 12);
    tells(x, x.slice(x.slice(table, 1, 3, -1, 3), 0, 2, -1, 2), 1, 11, 2, 6);
    tells(x, x.pick(0, 0, 7), 0, 7, 0, 1);
    tells(x, x.spread(x.shape(0, 2, 3, 2), 1, 5), 0, 0, 4, 60);
    tells(x, x.slice(table, 1, 3, -1, 0), 1, 0, 2, 0);
    tells(x, x.spread(x.slice(0, 0, 2, 1, 10), 0, 300), 0, 2, 2, 3000);
  }

  private static void toldFixed() {
    StrideViews x = counted(2, 12);
    int bare = x.pick(0, 0, 7);
    due(0, x.told(0, 4));
    due(0, x.told(bare, 4));
    due(0, x.told(x.spread(bare, 0, 1), 4));
    due(1, x.told(x.spread(bare, 0, 2), 4));
    due(1, x.told(x.spread(0, 1, 2), 4));
    due(0, x.told(x.slice(0, 0, 0, 1, 0), 4));
    due(1, x.told(x.spread(x.slice(0, 0, 0, 1, 0), 0, 2), 4));
  }

  private static void toldPlaces() {
    StrideViews x = counted(2, 12);
    int table = x.shape(0, 3, 4, NONE);
    int[][] want = {{0, 11}, {5, 11}, {1, 11}, {4, 11}, {7, 7}, {7, 7}, {0, 11}, {3, 9}, {0, 10}};
    int[] views = {
      0, x.slice(x.slice(table, 1, 3, -1, 3), 0, 2, -1, 2), x.slice(table, 1, 3, -1, 3),
      x.slice(table, 0, 2, -1, 2), x.pick(0, 0, 7), x.spread(x.pick(0, 0, 7), 0, 2),
      x.spread(x.shape(0, 2, 3, 2), 1, 5), x.diagonal(x.slice(table, 1, 3, -1, 4), 0, 1),
      x.diagonal(table, 0, 1)};
    for (int v = 0; v < views.length; v++) {
      due(want[v][0], x.told(views[v], 5));
      due(want[v][1], x.told(views[v], 6));
    }
  }

  private static void toldNone() {
    StrideViews x = counted(2, 12);
    int table = x.shape(0, 3, 4, NONE);
    int[] views = {
      x.slice(table, 0, 2, 1, 0), x.slice(table, 1, 2, 1, 0), x.slice(0, 0, 5, 1, 0), x.store(0, 0),
      x.spread(x.pick(0, 0, 7), 0, 0), x.shape(x.slice(0, 0, 0, 1, 0), 3, 0, 2)};
    for (int view : views) {
      due(-1, x.told(view, 5));
      due(-1, x.told(view, 6));
    }
  }

  private static void toldIndexes() {
    StrideViews x = table();
    for (int view : new int[] {-1, 2, MAX, MIN}) {
      for (int what = -1; what < 8; what++) {
        int asked = what;
        dueThrow(INDEX, () -> x.told(view, asked));
      }
    }
  }

  private static void toldArguments() {
    StrideViews x = table();
    for (int what : new int[] {-1, 7, MAX, MIN}) dueThrow(ARGUMENT, () -> x.told(1, what));
  }

  private static void axisTold() {
    StrideViews x = counted(2, 12);
    int table = x.shape(0, 3, 1, 4);
    int[][] want = {{3, 4}, {1, 0}, {4, 1}};
    for (int k = 0; k < 3; k++) {
      for (int what = 0; what < 2; what++) due(want[k][what], x.axis(table, k, what));
    }
    due(-2, x.axis(x.slice(0, 0, 11, -2, 2), 0, 1));
    int four = x.spread(table, 3, 9);
    due(9, x.axis(four, 3, 0));
    due(0, x.axis(four, 3, 1));
    due(0, x.axis(x.slice(0, 0, 0, 1, 0), 0, 0));
  }

  private static void axisIndexes() {
    StrideViews x = table();
    for (int view : new int[] {-1, 2, MAX, MIN}) dueThrow(INDEX, () -> x.axis(view, 0, 0));
    for (int axis : new int[] {-1, 2, 3, 4, MAX, MIN}) dueThrow(INDEX, () -> x.axis(1, axis, 0));
    int bare = x.pick(0, 0, 0);
    dueThrow(INDEX, () -> x.axis(bare, 0, 0));
    // An axis that the view had before is none of the new one.
    dueThrow(INDEX, () -> x.axis(x.pick(1, 0, 0), 1, 0));
  }

  private static void axisArguments() {
    StrideViews x = table();
    for (int what : new int[] {-1, 2, MAX, MIN}) dueThrow(ARGUMENT, () -> x.axis(1, 0, what));
  }

  private static void storedTold() {
    StrideViews x = counted(2, 12);
    x.store(1, 0);
    x.turn(0, 0, 0);
    x.fold(0, 0, 0);
    x.compact(2, 0);
    x.store(3, 300);
    int[][] want = {{2, 12, 2}, {1, 0, 1}, {3, 1, 1}, {0, 12, 1}, {3, 300, 1}};
    for (int s = 0; s < 5; s++) {
      for (int what = 0; what < 3; what++) due(want[s][what], x.stored(s, what));
    }
  }

  private static void storedViews() {
    StrideViews x = table();
    int views = 2;
    due(views, x.stored(0, 2));
    x.slice(1, 0, 0, 1, 0);
    x.pick(1, 0, 0);
    x.turn(1, 0, 1);
    x.spread(1, 0, 2);
    x.diagonal(1, 0, 1);
    x.shape(1, 6, NONE, NONE);
    due(views + 6, x.stored(0, 2));
    x.compact(1, 0);
    x.fold(0, 1, 0);
    x.store(0, 1);
    due(views + 6, x.stored(0, 2));
    x.turn(8, 0, 1);
    due(2, x.stored(1, 2));
    dueThrow(STATE, () -> x.spread(1, 0, 501));
    due(views + 6, x.stored(0, 2));
    fillViews(x, 0);
    due(80, x.stored(0, 2) + x.stored(1, 2) + x.stored(2, 2) + x.stored(3, 2));
  }

  private static void storedIndexes() {
    StrideViews x = table();
    for (int store : new int[] {-1, 1, 11, 12, MAX, MIN}) dueThrow(INDEX, () -> x.stored(store, 0));
    x.store(0, 0);
    due(0, x.stored(1, 0));
    StrideViews full = fullOfStores();
    due(1, full.stored(11, 1));
    dueThrow(INDEX, () -> full.stored(12, 1));
  }

  private static void storedArguments() {
    StrideViews x = table();
    for (int what : new int[] {-1, 3, MAX, MIN}) dueThrow(ARGUMENT, () -> x.stored(0, what));
  }

  private static void counts() {
    StrideViews x = counted(2, 12);
    due(1, x.count(0));
    due(1, x.count(1));
    x.turn(0, 0, 0);
    x.compact(0, 1);
    due(2, x.count(0));
    due(3, x.count(1));
    fillStores(x, 0);
    due(12, x.count(0));
    fillViews(x, 0);
    due(80, x.count(1));
  }

  private static void countArguments() {
    StrideViews x = new StrideViews();
    for (int what : new int[] {-1, 2, MAX, MIN}) dueThrow(ARGUMENT, () -> x.count(what));
  }

  public static void main(String[] args) {
    String p = "Promise 15";
    sentence(p, "How many PLACES items of both lie at.", TellingTests::sharedPlaces);
    sentence(p, "How many PLACES", TellingTests::sharedNotItems);
    sentence(p, "items of both", TellingTests::sharedNone);
    sentence(p, "IndexOutOfBounds", TellingTests::sharedIndexes);
    p = "Promise 16";
    sentence(p, "Whether two views have the same EXTENTS", TellingTests::sameExtents);
    sentence(p, "and the same numbers", TellingTests::sameNumbers);
    sentence(p, "IndexOutOfBounds", TellingTests::sameIndexes);
    p = "Promise 17";
    sentence(p, "each one as long as the next item lies at the next PLACE", TellingTests::runsOfItems);
    sentence(p, "In how many runs a view's items lie", TellingTests::runsOfFew);
    sentence(p, "IndexOutOfBounds", TellingTests::runsIndexes);
    p = "Promise 18";
    sentence(p, "its store (what = 0), START (1), how many AXES (2), items (3)", TellingTests::toldOfView);
    sentence(p, "1 if it is FIXED, else 0 (4)", TellingTests::toldFixed);
    sentence(p, "the least PLACE of its items (5), the greatest (6)", TellingTests::toldPlaces);
    sentence(p, "NONE without items", TellingTests::toldNone);
    sentence(p, "IndexOutOfBounds", TellingTests::toldIndexes);
    sentence(p, "IllegalArgument", TellingTests::toldArguments);
    p = "Promise 19";
    sentence(p, "Of an AXIS: its EXTENT (what = 0), STEP (1).", TellingTests::axisTold);
    sentence(p, "IndexOutOfBounds", TellingTests::axisIndexes);
    sentence(p, "IllegalArgument", TellingTests::axisArguments);
    p = "Promise 20";
    sentence(p, "Of a store: its LANE (what = 0), how many numbers (1)", TellingTests::storedTold);
    sentence(p, "how many views (2)", TellingTests::storedViews);
    sentence(p, "IndexOutOfBounds", TellingTests::storedIndexes);
    sentence(p, "IllegalArgument", TellingTests::storedArguments);
    p = "Promise 21";
    sentence(p, "How many stores (what = 0), views (1).", TellingTests::counts);
    sentence(p, "IllegalArgument", TellingTests::countArguments);
    end();
  }
}
