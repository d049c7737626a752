import java.util.ArrayList;
import java.util.List;

/** What each promise of the document asks for: ordinary inputs, the edges that it names, wrong inputs. */
public final class PromiseTests {
  private interface Call { long answer(); }

  private static final Class<?> INDEX = IndexOutOfBoundsException.class;
  private static final Class<?> ARGUMENT = IllegalArgumentException.class;
  private static final Class<?> STATE = IllegalStateException.class;
  private static final int MAX = Integer.MAX_VALUE;
  private static final int MIN = Integer.MIN_VALUE;
  private static final int NONE = StrideViews.NONE;

  private static int promise = 0;
  private static int checks = 0;
  private static int wrong = 0;

  private static void complain(String text) {
    wrong++;
    StackTraceElement here = null;
    for (StackTraceElement e : new Throwable().getStackTrace()) {
      if (e.getMethodName().startsWith("promise")) { here = e; break; }
    }
    System.out.println("promise " + promise + ", line " + (here == null ? 0 : here.getLineNumber()) + ": " + text);
  }

  private static void due(long want, long got) {
    checks++;
    if (got != want) complain("answered " + got + ", due is " + want);
  }

  private static void due(boolean want, boolean got) {
    due(want ? 1 : 0, got ? 1 : 0);
  }

  // The very class: what the machine throws by itself is of a class below it.
  private static void dueThrow(Class<?> want, Call call) {
    checks++;
    try {
      long got = call.answer();
      complain("answered " + got + ", due is " + want.getSimpleName());
    } catch (RuntimeException e) {
      if (e.getClass() != want) complain("threw " + e.getClass().getSimpleName() + ", due is " + want.getSimpleName());
    }
  }

  private static void items(StrideViews x, int view, long... want) {
    List<Long> a = new ArrayList<>();
    List<Long> b = new ArrayList<>();
    for (long w : want) a.add(w);
    for (int i = 0; i < x.told(view, 3); i++) b.add(x.at(view, i));
    checks++;
    if (!a.equals(b)) complain("items of view " + view + " are " + b + ", due are " + a);
  }

  // START, then EXTENT and STEP of each AXIS.
  private static void lies(StrideViews x, int view, int... want) {
    List<Integer> a = new ArrayList<>();
    List<Integer> b = new ArrayList<>();
    for (int w : want) a.add(w);
    b.add(x.told(view, 1));
    for (int k = 0; k < x.told(view, 2); k++) {
      b.add(x.axis(view, k, 0));
      b.add(x.axis(view, k, 1));
    }
    checks++;
    if (!a.equals(b)) complain("view " + view + " lies " + b + ", due is " + a);
  }

  /** A store of a lane that holds 0, 1, .. n - 1 (or their lowest bits) and its view 0. */
  private static StrideViews counted(int lane, int n) {
    StrideViews x = new StrideViews();
    int v = x.store(lane, n);
    for (int i = 0; i < n; i++) x.put(v, i, i);
    return x;
  }

  private static void fillViews(StrideViews x, int leave) {
    while (x.count(1) < 80 - leave) x.turn(0, 0, 0);
  }

  private static void fillStores(StrideViews x, int leave) {
    while (x.count(0) < 12 - leave) x.store(0, 1);
  }

  private static void promise1() {
    StrideViews x = new StrideViews();
    due(-1, StrideViews.NONE);
    due(0, x.count(0));
    due(0, x.count(1));
    dueThrow(INDEX, () -> x.told(0, 0));
    dueThrow(INDEX, () -> x.stored(0, 0));
    x.store(0, 1);
    StrideViews y = new StrideViews();
    due(0, y.count(0));
    due(0, y.count(1));
  }

  private static void promise2() {
    StrideViews x = new StrideViews();
    due(0, x.store(3, 300));
    due(1, x.store(0, 0));
    due(2, x.store(1, 1));
    due(3, x.store(2, 2));
    lies(x, 0, 0, 300, 1);
    lies(x, 1, 0, 0, 0);
    lies(x, 2, 0, 1, 0);
    lies(x, 3, 0, 2, 1);
    due(0, x.at(0, 299));
    due(2, x.told(2, 0));
    for (int lane : new int[] {-1, 4, MAX, MIN}) dueThrow(ARGUMENT, () -> x.store(lane, 1));
    for (int n : new int[] {-1, 301, MAX, MIN}) dueThrow(ARGUMENT, () -> x.store(0, n));
    due(4, x.count(0));
    due(4, x.count(1));
    while (x.count(0) < 12) x.store(0, 5);
    dueThrow(STATE, () -> x.store(0, 5));
    dueThrow(ARGUMENT, () -> x.store(4, 5));
    dueThrow(ARGUMENT, () -> x.store(0, 301));
    due(12, x.count(0));
    due(12, x.count(1));
    StrideViews y = new StrideViews();
    y.store(0, 1);
    fillViews(y, 1);
    due(79, y.store(0, 2));
    dueThrow(STATE, () -> y.store(0, 2));
    due(2, y.count(0));
    due(80, y.count(1));
  }

  private static void promise3() {
    StrideViews x = counted(2, 12);
    lies(x, x.slice(0, 0, 2, 3, 4), 2, 4, 3);
    items(x, 1, 2, 5, 8, 11);
    lies(x, x.slice(0, 0, 11, -11, 2), 11, 2, -11);
    lies(x, x.slice(1, 0, 3, -1, 4), 11, 4, -3);
    items(x, 3, 11, 8, 5, 2);
    lies(x, x.slice(3, 0, 1, 2, 2), 8, 2, -6);
    lies(x, x.slice(0, 0, 11, MAX, 1), 11, 1, 0);
    lies(x, x.slice(0, 0, 11, MIN, 1), 11, 1, 0);
    lies(x, x.slice(0, 0, MAX, MIN, 0), 0, 0, 0);
    lies(x, x.slice(0, 0, -5, 1, 0), 0, 0, 0);
    int table = x.shape(0, 2, 2, 3);
    lies(x, table, 0, 2, 6, 2, 3, 3, 1);
    lies(x, x.slice(table, 2, 2, -1, 3), 2, 2, 6, 2, 3, 3, -1);
    lies(x, x.slice(table, 1, 1, 1, 1), 3, 2, 6, 1, 0, 3, 1);
    lies(x, x.slice(table, 1, 1, 1, 0), 0, 2, 0, 0, 0, 3, 0);
    int views = x.count(1);
    dueThrow(INDEX, () -> x.slice(-1, 0, 0, 1, 1));
    dueThrow(INDEX, () -> x.slice(views, 0, 0, 1, 1));
    dueThrow(INDEX, () -> x.slice(0, -1, 0, 0, 1));
    dueThrow(INDEX, () -> x.slice(0, 1, 0, 0, 1));
    dueThrow(ARGUMENT, () -> x.slice(0, 0, 0, 1, -1));
    dueThrow(ARGUMENT, () -> x.slice(0, 0, 0, 1, MIN));
    dueThrow(ARGUMENT, () -> x.slice(0, 0, 0, 0, 1));
    dueThrow(ARGUMENT, () -> x.slice(0, 0, 0, 0, 0));
    dueThrow(ARGUMENT, () -> x.slice(0, 0, -1, 1, 1));
    dueThrow(ARGUMENT, () -> x.slice(0, 0, 12, 1, 1));
    dueThrow(ARGUMENT, () -> x.slice(0, 0, 12, -1, 2));
    dueThrow(ARGUMENT, () -> x.slice(0, 0, 0, 1, 13));
    dueThrow(ARGUMENT, () -> x.slice(0, 0, 0, -1, 2));
    dueThrow(ARGUMENT, () -> x.slice(0, 0, 0, 1073741824, 5));
    dueThrow(ARGUMENT, () -> x.slice(0, 0, 0, MIN, 3));
    dueThrow(ARGUMENT, () -> x.slice(0, 0, 0, MAX, MAX));
    dueThrow(ARGUMENT, () -> x.slice(7, 0, 0, 1, 1));
    due(views, x.count(1));
    fillViews(x, 0);
    dueThrow(STATE, () -> x.slice(0, 0, 0, 1, 1));
    dueThrow(ARGUMENT, () -> x.slice(0, 0, 0, 0, 1));
    due(80, x.count(1));
  }

  private static void promise4() {
    StrideViews x = counted(2, 12);
    int table = x.shape(0, 3, 4, NONE);
    lies(x, x.pick(table, 0, 2), 8, 4, 1);
    lies(x, x.pick(table, 1, 3), 3, 3, 4);
    items(x, 3, 3, 7, 11);
    lies(x, x.pick(3, 0, 1), 7);
    items(x, 4, 7);
    int back = x.slice(0, 0, 11, -1, 12);
    lies(x, x.pick(back, 0, 4), 7);
    int none = x.slice(table, 0, 0, 1, 0);
    lies(x, x.pick(none, 1, 3), 0, 0, 0);
    dueThrow(INDEX, () -> x.pick(none, 0, 0));
    dueThrow(INDEX, () -> x.pick(99, 0, 0));
    dueThrow(INDEX, () -> x.pick(-1, 0, 0));
    dueThrow(INDEX, () -> x.pick(table, 2, 0));
    dueThrow(INDEX, () -> x.pick(table, -1, 0));
    dueThrow(INDEX, () -> x.pick(table, 0, 3));
    dueThrow(INDEX, () -> x.pick(table, 0, -1));
    dueThrow(INDEX, () -> x.pick(4, 0, 0));
    due(9, x.count(1));
    fillViews(x, 0);
    dueThrow(STATE, () -> x.pick(table, 0, 0));
    dueThrow(INDEX, () -> x.pick(table, 0, 3));
  }

  private static void promise5() {
    StrideViews x = counted(2, 12);
    int table = x.shape(0, 2, 3, 2);
    lies(x, x.turn(table, 0, 2), 0, 2, 1, 3, 2, 2, 6);
    items(x, 2, 0, 6, 2, 8, 4, 10, 1, 7, 3, 9, 5, 11);
    lies(x, x.turn(table, 1, 0), 0, 3, 2, 2, 6, 2, 1);
    lies(x, x.turn(table, 1, 1), 0, 2, 6, 3, 2, 2, 1);
    due(5, x.count(1));
    dueThrow(INDEX, () -> x.turn(5, 0, 0));
    dueThrow(INDEX, () -> x.turn(table, 0, 3));
    dueThrow(INDEX, () -> x.turn(table, 3, 0));
    dueThrow(INDEX, () -> x.turn(table, -1, 0));
    dueThrow(INDEX, () -> x.turn(table, 0, MIN));
    fillViews(x, 0);
    dueThrow(STATE, () -> x.turn(table, 0, 1));
    dueThrow(INDEX, () -> x.turn(table, 0, 3));
    due(80, x.count(1));
  }

  private static void promise6() {
    StrideViews x = counted(2, 3);
    lies(x, x.spread(0, 0, 2), 0, 2, 0, 3, 1);
    items(x, 1, 0, 1, 2, 0, 1, 2);
    lies(x, x.spread(0, 1, 2), 0, 3, 1, 2, 0);
    items(x, 2, 0, 0, 1, 1, 2, 2);
    lies(x, x.spread(0, 1, 1), 0, 3, 1, 1, 0);
    due(0, x.told(3, 4));
    int last = x.slice(0, 0, 2, 1, 1);
    lies(x, x.spread(last, 0, 0), 0, 0, 0, 1, 0);
    lies(x, x.spread(1, 2, 0), 0, 2, 0, 3, 0, 0, 0);
    int four = x.spread(x.spread(1, 1, 5), 3, 7);
    lies(x, four, 0, 2, 0, 5, 0, 3, 1, 7, 0);
    due(210, x.told(four, 3));
    dueThrow(STATE, () -> x.spread(four, 4, 1));
    dueThrow(STATE, () -> x.spread(four, 0, 0));
    dueThrow(INDEX, () -> x.spread(four, 5, 1));
    dueThrow(ARGUMENT, () -> x.spread(four, 4, -1));
    dueThrow(INDEX, () -> x.spread(0, 2, 1));
    dueThrow(INDEX, () -> x.spread(0, -1, -1));
    dueThrow(INDEX, () -> x.spread(-1, 0, 1));
    dueThrow(INDEX, () -> x.spread(9, 0, 1));
    dueThrow(ARGUMENT, () -> x.spread(0, 0, -1));
    dueThrow(ARGUMENT, () -> x.spread(0, 0, MIN));
    due(9, x.count(1));
    due(9, x.spread(0, 0, 1000));
    due(3000, x.told(9, 3));
    dueThrow(STATE, () -> x.spread(0, 0, 1001));
    dueThrow(STATE, () -> x.spread(last, 0, 3001));
    dueThrow(STATE, () -> x.spread(0, 0, 1431655766));
    dueThrow(STATE, () -> x.spread(9, 0, MAX));
    int none = x.slice(0, 0, 0, 1, 0);
    lies(x, x.spread(none, 1, MAX), 0, 0, 0, MAX, 0);
    due(0, x.told(11, 3));
    fillViews(x, 0);
    dueThrow(STATE, () -> x.spread(0, 0, 1));
  }

  private static void promise7() {
    StrideViews x = counted(2, 24);
    int table = x.shape(0, 2, 3, 4);
    lies(x, x.diagonal(table, 0, 1), 0, 4, 1, 2, 16);
    lies(x, x.diagonal(table, 2, 0), 0, 3, 4, 2, 13);
    items(x, 3, 0, 13, 4, 17, 8, 21);
    lies(x, x.diagonal(table, 1, 2), 0, 2, 12, 3, 5);
    int back = x.slice(table, 2, 3, -1, 4);
    lies(x, x.diagonal(back, 1, 2), 3, 2, 12, 3, 3);
    int thin = x.slice(table, 1, 2, 1, 1);
    lies(x, x.diagonal(thin, 1, 2), 8, 2, 12, 1, 0);
    int none = x.slice(table, 1, 0, 1, 0);
    lies(x, x.diagonal(none, 2, 1), 0, 2, 0, 0, 0);
    lies(x, x.diagonal(none, 0, 2), 0, 0, 0, 2, 0);
    int wide = x.spread(0, 1, 5);
    lies(x, x.diagonal(wide, 0, 1), 0, 5, 1);
    due(0, x.told(x.count(1) - 1, 4));
    int views = x.count(1);
    dueThrow(ARGUMENT, () -> x.diagonal(table, 1, 1));
    dueThrow(INDEX, () -> x.diagonal(table, 3, 3));
    dueThrow(INDEX, () -> x.diagonal(table, 0, 3));
    dueThrow(INDEX, () -> x.diagonal(table, -1, 0));
    dueThrow(INDEX, () -> x.diagonal(views, 0, 1));
    due(views, x.count(1));
    fillViews(x, 0);
    dueThrow(STATE, () -> x.diagonal(table, 0, 1));
    dueThrow(ARGUMENT, () -> x.diagonal(table, 1, 1));
  }

  private static void promise8() {
    StrideViews x = counted(2, 12);
    lies(x, x.shape(0, 3, 4, NONE), 0, 3, 4, 4, 1);
    lies(x, x.shape(1, 2, 2, 3), 0, 2, 6, 2, 3, 3, 1);
    lies(x, x.shape(1, NONE, NONE, 12), 0, 12, 1);
    lies(x, x.shape(1, NONE, 6, 2), 0, 6, 2, 2, 1);
    lies(x, x.shape(1, 12, 1, NONE), 0, 12, 1, 1, 0);
    int turned = x.turn(1, 0, 1);
    lies(x, x.shape(turned, 2, 2, 3), 0, 2, 2, 2, 1, 3, 4);
    lies(x, x.shape(turned, 4, 1, 3), 0, 4, 1, 1, 0, 3, 4);
    dueThrow(STATE, () -> x.shape(turned, 12, NONE, NONE));
    dueThrow(STATE, () -> x.shape(turned, 2, 6, NONE));
    dueThrow(STATE, () -> x.shape(turned, 3, 4, NONE));
    int back = x.slice(0, 0, 11, -2, 6);
    lies(x, x.shape(back, 2, 3, NONE), 11, 2, -6, 3, -2);
    int wide = x.spread(x.slice(0, 0, 3, 1, 2), 1, 6);
    lies(x, x.shape(wide, 2, 2, 3), 3, 2, 1, 2, 0, 3, 0);
    dueThrow(STATE, () -> x.shape(wide, 12, NONE, NONE));
    dueThrow(STATE, () -> x.shape(wide, 3, 4, NONE));
    int part = x.slice(1, 1, 0, 1, 3);
    dueThrow(STATE, () -> x.shape(part, 9, NONE, NONE));
    int one = x.slice(0, 0, 7, 1, 1);
    lies(x, x.shape(one, NONE, NONE, NONE), 7);
    int bare = x.count(1) - 1;
    lies(x, x.shape(bare, 1, 1, 1), 7, 1, 0, 1, 0, 1, 0);
    dueThrow(ARGUMENT, () -> x.shape(0, NONE, NONE, NONE));
    dueThrow(ARGUMENT, () -> x.shape(0, -2, 12, NONE));
    dueThrow(ARGUMENT, () -> x.shape(0, -2, -6, NONE));
    dueThrow(ARGUMENT, () -> x.shape(0, NONE, -2, -6));
    dueThrow(ARGUMENT, () -> x.shape(0, -4, NONE, -3));
    dueThrow(ARGUMENT, () -> x.shape(0, 12, MIN, NONE));
    dueThrow(ARGUMENT, () -> x.shape(0, 12, NONE, -2));
    dueThrow(ARGUMENT, () -> x.shape(0, 13, NONE, NONE));
    dueThrow(ARGUMENT, () -> x.shape(0, 0, NONE, NONE));
    dueThrow(ARGUMENT, () -> x.shape(turned, 5, 2, NONE));
    int most = x.spread(bare, 0, 3000);
    lies(x, x.shape(most, 1, 30, 100), 7, 1, 0, 30, 0, 100, 0);
    dueThrow(ARGUMENT, () -> x.shape(most, 30, 100, 2));
    int none = x.slice(0, 0, 0, 1, 0);
    lies(x, x.shape(none, MAX, 5, 0), 0, MAX, 0, 5, 0, 0, 0);
    lies(x, x.shape(none, 0, 46341, 46341), 0, 0, 0, 46341, 0, 46341, 0);
    dueThrow(ARGUMENT, () -> x.shape(none, -2, 0, NONE));
    dueThrow(ARGUMENT, () -> x.shape(none, 0, -2, NONE));
    dueThrow(ARGUMENT, () -> x.shape(none, 0, NONE, -2));
    dueThrow(ARGUMENT, () -> x.shape(none, 65536, 65536, NONE));
    dueThrow(ARGUMENT, () -> x.shape(none, 2097152, 2097152, 4194304));
    dueThrow(ARGUMENT, () -> x.shape(none, NONE, NONE, NONE));
    // Their product has the lowest 32 bits of 12.
    dueThrow(ARGUMENT, () -> x.shape(0, 4, 1073741827, NONE));
    dueThrow(INDEX, () -> x.shape(-1, 12, NONE, NONE));
    dueThrow(INDEX, () -> x.shape(79, -2, NONE, NONE));
    fillViews(x, 0);
    dueThrow(STATE, () -> x.shape(0, 12, NONE, NONE));
    dueThrow(ARGUMENT, () -> x.shape(0, 13, NONE, NONE));
  }

  private static void promise9() {
    StrideViews x = counted(3, 12);
    x.put(0, 0, 300);
    x.put(0, 4, -129);
    int table = x.shape(0, 3, 4, NONE);
    int turned = x.turn(table, 1, 0);
    due(3, x.compact(turned, 0));
    lies(x, 3, 0, 4, 3, 3, 1);
    items(x, 3, 44, 127, 8, 1, 5, 9, 2, 6, 10, 3, 7, 11);
    due(1, x.told(3, 0));
    due(0, x.stored(1, 0));
    due(12, x.stored(1, 1));
    due(1, x.stored(1, 2));
    x.put(3, 0, 7);
    due(300, x.at(0, 0));
    int wide = x.spread(x.slice(0, 0, 1, 1, 1), 1, 300);
    int flat = x.compact(wide, 3);
    lies(x, flat, 0, 1, 0, 300, 1);
    due(0, x.told(flat, 4));
    due(1, x.at(flat, 299));
    lies(x, x.compact(x.pick(0, 0, 4), 3), 0);
    due(-129, x.at(x.count(1) - 1, 0));
    int none = x.slice(table, 1, 0, 1, 0);
    lies(x, x.compact(none, 2), 0, 3, 0, 0, 0);
    int over = x.spread(x.slice(0, 0, 1, 1, 1), 1, 301);
    int stores = x.count(0);
    int views = x.count(1);
    dueThrow(STATE, () -> x.compact(over, 0));
    dueThrow(ARGUMENT, () -> x.compact(over, 4));
    dueThrow(ARGUMENT, () -> x.compact(0, -1));
    dueThrow(INDEX, () -> x.compact(views, 4));
    dueThrow(INDEX, () -> x.compact(-1, 0));
    due(stores, x.count(0));
    due(views, x.count(1));
    fillStores(x, 1);
    x.compact(0, 0);
    dueThrow(STATE, () -> x.compact(0, 0));
    dueThrow(ARGUMENT, () -> x.compact(0, 4));
    StrideViews y = counted(0, 2);
    fillViews(y, 1);
    due(79, y.compact(0, 0));
    dueThrow(STATE, () -> y.compact(0, 0));
    due(2, y.count(0));
  }

  private static void promise10() {
    StrideViews x = counted(2, 12);
    int cube = x.shape(0, 2, 3, 2);
    due(0, x.at(cube, 0));
    due(11, x.at(cube, 11));
    int turned = x.turn(cube, 0, 1);
    due(6, x.at(turned, 2));
    due(7, x.at(turned, 3));
    due(2, x.at(turned, 4));
    int wide = x.spread(x.slice(0, 0, 11, -1, 12), 1, 3);
    due(11, x.at(wide, 2));
    due(10, x.at(wide, 3));
    due(0, x.at(wide, 35));
    due(9, x.at(x.pick(0, 0, 9), 0));
    int none = x.slice(0, 0, 0, 1, 0);
    dueThrow(INDEX, () -> x.at(none, 0));
    dueThrow(INDEX, () -> x.at(0, 12));
    dueThrow(INDEX, () -> x.at(0, -1));
    dueThrow(INDEX, () -> x.at(0, MIN));
    dueThrow(INDEX, () -> x.at(wide, 36));
    dueThrow(INDEX, () -> x.at(-1, 0));
    dueThrow(INDEX, () -> x.at(99, 0));
  }

  private static void promise11() {
    long[][] kept = {
      {127, -128, -1, 0}, {32767, -32768, -1, 0}, {2147483647L, -2147483648L, -1, 0},
      {Long.MAX_VALUE, Long.MIN_VALUE, -1, 5}};
    long[] over = {128, 32768, 2147483648L, 0};
    for (int lane = 0; lane < 4; lane++) {
      StrideViews x = new StrideViews();
      x.store(lane, 2);
      long was = 0;
      for (long v : kept[lane]) {
        due(was, x.put(0, 1, v));
        due(v, x.at(0, 1));
        was = v;
      }
      x.put(0, 1, over[lane]);
      due(lane == 3 ? 0 : -over[lane], x.at(0, 1));
      due(0, x.at(0, 0));
    }
    StrideViews x = counted(1, 6);
    int back = x.slice(0, 0, 5, -2, 3);
    due(3, x.put(back, 1, 70000));
    items(x, 0, 0, 1, 2, 4464, 4, 5);
    int wide = x.spread(0, 0, 2);
    int single = x.spread(0, 0, 1);
    dueThrow(STATE, () -> x.put(wide, 0, 1));
    dueThrow(INDEX, () -> x.put(wide, 12, 1));
    due(0, x.put(single, 0, 9));
    due(9, x.at(wide, 6));
    dueThrow(INDEX, () -> x.put(0, 6, 1));
    dueThrow(INDEX, () -> x.put(0, -1, 1));
    dueThrow(INDEX, () -> x.put(4, 0, 1));
    dueThrow(INDEX, () -> x.put(-1, 0, 1));
    items(x, 0, 9, 1, 2, 4464, 4, 5);
  }

  private static void promise12() {
    StrideViews x = counted(2, 6);
    int low = x.slice(0, 0, 0, 1, 5);
    int high = x.slice(0, 0, 1, 1, 5);
    due(5, x.copy(low, high));
    items(x, 0, 0, 0, 1, 2, 3, 4);
    due(4, x.copy(high, low));
    items(x, 0, 0, 1, 2, 3, 4, 4);
    due(0, x.copy(0, 0));
    int back = x.slice(0, 0, 5, -1, 6);
    due(6, x.copy(back, 0));
    items(x, 0, 4, 4, 3, 2, 1, 0);
    int small = x.store(0, 6);
    x.put(0, 0, 260);
    due(5, x.copy(0, small));
    items(x, small, 4, 4, 3, 2, 1, 0);
    due(0, x.copy(0, small));
    int table = x.shape(small, 2, 3, NONE);
    int row = x.slice(0, 0, 1, 1, 3);
    due(5, x.copy(row, table));
    items(x, table, 4, 3, 2, 4, 3, 2);
    int column = x.shape(x.slice(0, 0, 4, 1, 2), 2, 1, NONE);
    due(6, x.copy(column, table));
    items(x, table, 1, 1, 1, 0, 0, 0);
    int bare = x.pick(0, 0, 1);
    due(6, x.copy(bare, table));
    items(x, small, 4, 4, 4, 4, 4, 4);
    dueThrow(ARGUMENT, () -> x.copy(table, small));
    dueThrow(ARGUMENT, () -> x.copy(0, table));
    dueThrow(ARGUMENT, () -> x.copy(table, row));
    int pair = x.slice(0, 0, 0, 1, 2);
    dueThrow(ARGUMENT, () -> x.copy(pair, table));
    int longer = x.shape(row, 1, 1, 3);
    dueThrow(ARGUMENT, () -> x.copy(longer, table));
    int wide = x.spread(row, 0, 2);
    dueThrow(STATE, () -> x.copy(row, wide));
    dueThrow(ARGUMENT, () -> x.copy(pair, wide));
    due(4, x.copy(wide, table));
    int none = x.slice(0, 0, 0, 1, 0);
    due(0, x.copy(bare, none));
    due(0, x.copy(x.slice(0, 0, 3, 1, 1), none));
    dueThrow(ARGUMENT, () -> x.copy(none, row));
    dueThrow(ARGUMENT, () -> x.copy(row, none));
    dueThrow(STATE, () -> x.copy(none, x.spread(none, 0, 2)));
    dueThrow(INDEX, () -> x.copy(-1, 0));
    dueThrow(INDEX, () -> x.copy(0, 79));
    items(x, table, 4, 3, 2, 4, 3, 2);
  }

  private static void promise13() {
    StrideViews x = counted(3, 4);
    int b = x.store(3, 4);
    int to = x.store(3, 4);
    long[] first = {Long.MAX_VALUE, -7, 3, Long.MIN_VALUE};
    long[] second = {1, 7, -5, 1};
    for (int i = 0; i < 4; i++) {
      x.put(0, i, first[i]);
      x.put(b, i, second[i]);
    }
    due(3, x.act(0, 0, b, to));
    items(x, to, Long.MIN_VALUE, 0, -2, Long.MIN_VALUE + 1);
    due(4, x.act(1, 0, b, to));
    items(x, to, Long.MAX_VALUE - 1, -14, 8, Long.MAX_VALUE);
    due(4, x.act(2, 0, b, to));
    items(x, to, Long.MAX_VALUE, -49, -15, Long.MIN_VALUE);
    due(3, x.act(3, 0, b, to));
    items(x, to, Long.MAX_VALUE, 7, 3, 1);
    due(4, x.act(4, 0, b, to));
    items(x, to, 1, -7, -5, Long.MIN_VALUE);
    due(0, x.act(4, b, 0, to));
    int small = x.store(0, 4);
    due(3, x.act(2, 0, b, small));
    items(x, small, -1, -49, -15, 0);

    StrideViews y = counted(2, 6);
    due(5, y.act(0, y.slice(0, 0, 0, 1, 5), y.slice(0, 0, 1, 1, 5), y.slice(0, 0, 0, 1, 5)));
    items(y, 0, 1, 3, 5, 7, 9, 5);
    int back = y.slice(0, 0, 5, -1, 6);
    due(6, y.act(1, 0, back, back));
    items(y, 0, 4, 6, 2, -2, -6, -4);
    int table = y.shape(y.store(2, 6), 2, 3, NONE);
    int row = y.slice(0, 0, 0, 1, 3);
    int column = y.shape(y.slice(0, 0, 4, 1, 2), 2, 1, NONE);
    due(4, y.act(0, column, row, table));
    items(y, table, -2, 0, -4, 0, 2, -2);
    int wide = y.spread(row, 0, 2);
    int views = y.count(1);
    dueThrow(STATE, () -> y.act(0, row, row, wide));
    dueThrow(ARGUMENT, () -> y.act(0, 0, row, wide));
    dueThrow(ARGUMENT, () -> y.act(0, row, 0, table));
    dueThrow(ARGUMENT, () -> y.act(0, 0, row, table));
    dueThrow(ARGUMENT, () -> y.act(5, row, row, table));
    dueThrow(ARGUMENT, () -> y.act(-1, row, row, wide));
    dueThrow(INDEX, () -> y.act(5, views, row, table));
    dueThrow(INDEX, () -> y.act(0, row, -1, table));
    dueThrow(INDEX, () -> y.act(0, row, row, views));
    int none = y.slice(0, 0, 0, 1, 0);
    due(0, y.act(0, none, y.pick(0, 0, 0), none));
    dueThrow(ARGUMENT, () -> y.act(0, none, row, table));
    int full = y.store(2, 300);
    int sheet = y.shape(full, 100, 3, 1);
    due(300, y.act(3, y.pick(full, 0, 0), y.pick(0, 0, 1), sheet));
    due(6, y.at(full, 299));
    items(y, table, -2, 0, -4, 0, 2, -2);
  }

  private static void promise14() {
    StrideViews x = counted(0, 12);
    x.put(0, 0, -100);
    int cube = x.shape(0, 2, 3, 2);
    due(2, x.fold(0, cube, 0));
    lies(x, 2, 0, 3, 2, 2, 1);
    items(x, 2, -94, 8, 10, 12, 14, 16);
    due(3, x.stored(1, 0));
    due(6, x.stored(1, 1));
    due(1, x.stored(1, 2));
    items(x, x.fold(2, cube, 1), -800, 15, 480, 693);
    items(x, x.fold(3, cube, 2), 1, 3, 5, 7, 9, 11);
    items(x, x.fold(4, cube, 2), -100, 2, 4, 6, 8, 10);
    lies(x, x.fold(0, 0, 0), 0);
    items(x, 6, -34);
    items(x, x.fold(0, x.spread(0, 0, 4), 0), -400, 4, 8, 12, 16, 20, 24, 28, 32, 36, 40, 44);
    int back = x.slice(cube, 1, 2, -1, 3);
    items(x, x.fold(0, x.turn(back, 0, 2), 0), 9, 21, 5, 17, -99, 13);

    StrideViews y = counted(0, 3);
    int none = y.slice(y.shape(0, 3, 1, NONE), 1, 0, 1, 0);
    long[] empty = {0, 0, 1, Long.MIN_VALUE, Long.MAX_VALUE};
    for (int act : new int[] {0, 2, 3, 4}) {
      items(y, y.fold(act, none, 1), empty[act], empty[act], empty[act]);
      lies(y, y.fold(act, none, 0), 0, 0, 0);
    }
    int high = y.store(3, 2);
    y.put(high, 0, Long.MAX_VALUE);
    y.put(high, 1, Long.MAX_VALUE);
    items(y, y.fold(0, high, 0), -2);
    int views = y.count(1);
    dueThrow(ARGUMENT, () -> y.fold(1, none, 0));
    dueThrow(ARGUMENT, () -> y.fold(5, none, 0));
    dueThrow(ARGUMENT, () -> y.fold(-1, none, 0));
    dueThrow(INDEX, () -> y.fold(1, none, 2));
    dueThrow(INDEX, () -> y.fold(0, none, -1));
    dueThrow(INDEX, () -> y.fold(1, views, 0));
    due(views, y.count(1));
    y.fold(0, 0, 0);
    due(12, y.count(0));
    dueThrow(STATE, () -> y.fold(0, 0, 0));
    dueThrow(ARGUMENT, () -> y.fold(1, 0, 0));

    StrideViews z = counted(0, 3);
    int fit = z.spread(0, 0, 300);
    items(z, z.fold(2, z.slice(fit, 0, 0, 1, 9), 0), 0, 1, 512);
    due(300, z.told(z.fold(0, fit, 1), 3));
    dueThrow(STATE, () -> z.fold(0, z.spread(0, 0, 301), 1));
    int lot = z.spread(z.spread(z.spread(z.slice(0, 0, 0, 1, 0), 0, 4194304), 0, 2097152), 0, 2097152);
    dueThrow(STATE, () -> z.fold(0, lot, 3));
    int pair = z.spread(z.spread(z.slice(0, 0, 0, 1, 0), 0, 65536), 0, 65536);
    dueThrow(STATE, () -> z.fold(0, pair, 2));
    lies(z, z.fold(0, lot, 1), 0, 2097152, 0, 4194304, 0, 0, 0);
    fillViews(z, 1);
    due(79, z.fold(0, 0, 0));
    int stores = z.count(0);
    dueThrow(STATE, () -> z.fold(0, 0, 0));
    due(stores, z.count(0));
    StrideViews bare = counted(0, 1);
    bare.pick(0, 0, 0);
    dueThrow(INDEX, () -> bare.fold(0, 1, 0));
  }

  private static void promise15() {
    StrideViews x = counted(2, 12);
    int evens = x.slice(0, 0, 0, 2, 6);
    int threes = x.slice(0, 0, 9, -3, 4);
    due(2, x.shared(evens, threes));
    due(2, x.shared(threes, evens));
    due(6, x.shared(evens, 0));
    due(12, x.shared(0, 0));
    due(0, x.shared(evens, x.slice(0, 0, 1, 2, 6)));
    int wide = x.spread(evens, 1, 5);
    due(6, x.shared(wide, wide));
    due(2, x.shared(threes, wide));
    int twin = x.compact(evens, 2);
    due(0, x.shared(evens, twin));
    due(0, x.shared(x.slice(0, 0, 0, 1, 0), 0));
    due(1, x.shared(x.pick(0, 0, 6), evens));
    due(0, x.shared(x.pick(0, 0, 7), evens));
    due(1, x.shared(x.pick(0, 0, 0), evens));
    due(1, x.shared(x.pick(0, 0, 0), threes));
    due(0, x.shared(x.slice(0, 0, 1, 1, 5), x.pick(0, 0, 0)));
    due(6, x.shared(evens, x.spread(evens, 0, 500)));
    due(2, x.shared(evens, threes));
    dueThrow(INDEX, () -> x.shared(0, 79));
    dueThrow(INDEX, () -> x.shared(-1, 0));
  }

  private static void promise16() {
    StrideViews x = counted(2, 6);
    int table = x.shape(0, 2, 3, NONE);
    int other = x.compact(table, 0);
    due(true, x.same(table, other));
    due(true, x.same(other, table));
    due(true, x.same(0, 0));
    due(false, x.same(0, table));
    due(false, x.same(table, x.shape(0, 3, 2, NONE)));
    due(false, x.same(table, x.shape(0, 1, 2, 3)));
    x.put(other, 5, 4);
    due(false, x.same(table, other));
    due(false, x.same(other, table));
    x.put(0, 5, 260);
    due(false, x.same(table, other));
    x.put(0, 5, 4);
    due(true, x.same(table, other));
    due(false, x.same(0, x.slice(0, 0, 5, -1, 6)));
    int none = x.slice(0, 0, 0, 1, 0);
    int four = x.spread(table, 0, 3);
    due(true, x.same(x.spread(four, 2, 1), x.spread(four, 2, 1)));
    due(false, x.same(x.spread(four, 2, 1), x.spread(four, 1, 1)));
    due(true, x.same(none, x.store(0, 0)));
    due(false, x.same(none, x.spread(none, 0, 2)));
    due(false, x.same(x.spread(none, 0, 3), x.spread(none, 0, 2)));
    int bare = x.pick(0, 0, 4);
    due(true, x.same(bare, x.pick(0, 0, 5)));
    due(false, x.same(bare, x.pick(0, 0, 3)));
    due(false, x.same(bare, x.slice(0, 0, 4, 1, 1)));
    dueThrow(INDEX, () -> x.same(0, 79) ? 1 : 0);
    dueThrow(INDEX, () -> x.same(-1, 0) ? 1 : 0);
  }

  private static void promise17() {
    StrideViews x = counted(2, 12);
    int table = x.shape(0, 3, 4, NONE);
    due(1, x.runs(0));
    due(1, x.runs(table));
    due(3, x.runs(x.slice(table, 1, 0, 1, 3)));
    due(12, x.runs(x.turn(table, 0, 1)));
    due(12, x.runs(x.slice(0, 0, 11, -1, 12)));
    due(6, x.runs(x.slice(0, 0, 0, 2, 6)));
    due(4, x.runs(x.spread(0, 0, 4)));
    // 0, 0, 0, 0, 1, ..: the last 0 and the first 1 are of one run.
    due(12 * 4 - 11, x.runs(x.spread(0, 1, 4)));
    due(1, x.runs(x.pick(0, 0, 3)));
    due(0, x.runs(x.slice(0, 0, 0, 1, 0)));
    due(2, x.runs(x.slice(table, 0, 0, 2, 2)));
    dueThrow(INDEX, () -> x.runs(79));
    dueThrow(INDEX, () -> x.runs(-1));
  }

  private static void promise18() {
    StrideViews x = counted(2, 12);
    int other = x.store(0, 12);
    int table = x.shape(other, 3, 4, NONE);
    int part = x.slice(x.slice(table, 1, 3, -1, 3), 0, 2, -1, 2);
    int[] want = {1, 11, 2, 6, 0, 5, 11};
    for (int what = 0; what < 7; what++) due(want[what], x.told(part, what));
    int mixed = x.slice(table, 1, 3, -1, 3);
    due(3, x.told(mixed, 1));
    due(1, x.told(mixed, 5));
    due(11, x.told(mixed, 6));
    int bare = x.pick(0, 0, 7);
    int[] wantBare = {0, 7, 0, 1, 0, 7, 7};
    for (int what = 0; what < 7; what++) due(wantBare[what], x.told(bare, what));
    int none = x.slice(table, 0, 2, 1, 0);
    int[] wantNone = {1, 0, 2, 0, 1, NONE, NONE};
    for (int what = 0; what < 7; what++) due(wantNone[what], x.told(none, what));
    int four = x.spread(x.shape(0, 2, 3, 2), 1, 5);
    int[] wantFour = {0, 0, 4, 60, 1, 0, 11};
    for (int what = 0; what < 7; what++) due(wantFour[what], x.told(four, what));
    due(0, x.told(x.slice(0, 0, 0, 1, 0), 4));
    int wide = x.spread(bare, 0, 2);
    due(1, x.told(wide, 4));
    due(7, x.told(wide, 5));
    due(7, x.told(wide, 6));
    due(0, x.told(x.spread(bare, 0, 1), 4));
    dueThrow(ARGUMENT, () -> x.told(0, 7));
    dueThrow(ARGUMENT, () -> x.told(0, -1));
    dueThrow(INDEX, () -> x.told(79, 7));
    dueThrow(INDEX, () -> x.told(-1, 0));
  }

  private static void promise19() {
    StrideViews x = counted(2, 12);
    int table = x.shape(0, 3, 1, 4);
    due(3, x.axis(table, 0, 0));
    due(4, x.axis(table, 0, 1));
    due(1, x.axis(table, 1, 0));
    due(0, x.axis(table, 1, 1));
    due(4, x.axis(table, 2, 0));
    due(1, x.axis(table, 2, 1));
    due(-2, x.axis(x.slice(0, 0, 11, -2, 2), 0, 1));
    dueThrow(ARGUMENT, () -> x.axis(table, 0, 2));
    dueThrow(ARGUMENT, () -> x.axis(table, 0, -1));
    dueThrow(INDEX, () -> x.axis(table, 3, 2));
    dueThrow(INDEX, () -> x.axis(table, -1, 0));
    dueThrow(INDEX, () -> x.axis(79, 0, 0));
    dueThrow(INDEX, () -> x.axis(-1, 0, 0));
  }

  private static void promise20() {
    StrideViews x = counted(2, 12);
    x.store(1, 0);
    x.turn(0, 0, 0);
    x.fold(0, 0, 0);
    int[][] want = {{2, 12, 2}, {1, 0, 1}, {3, 1, 1}};
    for (int s = 0; s < 3; s++) {
      for (int what = 0; what < 3; what++) due(want[s][what], x.stored(s, what));
    }
    dueThrow(STATE, () -> x.spread(0, 0, 3001));
    due(2, x.stored(0, 2));
    dueThrow(ARGUMENT, () -> x.stored(0, 3));
    dueThrow(ARGUMENT, () -> x.stored(0, -1));
    dueThrow(INDEX, () -> x.stored(3, 3));
    dueThrow(INDEX, () -> x.stored(-1, 0));
    dueThrow(INDEX, () -> x.stored(12, 0));
  }

  private static void promise21() {
    StrideViews x = counted(2, 12);
    x.turn(0, 0, 0);
    x.compact(0, 1);
    due(2, x.count(0));
    due(3, x.count(1));
    dueThrow(ARGUMENT, () -> x.count(2));
    dueThrow(ARGUMENT, () -> x.count(-1));
    dueThrow(ARGUMENT, () -> x.count(MIN));
  }

  public static void main(String[] args) {
    Runnable[] promises = {
      PromiseTests::promise1, PromiseTests::promise2, PromiseTests::promise3, PromiseTests::promise4,
      PromiseTests::promise5, PromiseTests::promise6, PromiseTests::promise7, PromiseTests::promise8,
      PromiseTests::promise9, PromiseTests::promise10, PromiseTests::promise11, PromiseTests::promise12,
      PromiseTests::promise13, PromiseTests::promise14, PromiseTests::promise15, PromiseTests::promise16,
      PromiseTests::promise17, PromiseTests::promise18, PromiseTests::promise19, PromiseTests::promise20,
      PromiseTests::promise21};
    for (Runnable one : promises) {
      promise++;
      try {
        one.run();
      } catch (RuntimeException e) {
        complain("ended by " + e);
        e.printStackTrace(System.out);
      }
    }
    System.out.println(checks + " checks, " + wrong + " wrong");
    if (wrong != 0) System.exit(1);
  }
}
