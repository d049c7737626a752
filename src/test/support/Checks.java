import java.util.ArrayList;
import java.util.List;
import java.util.function.Supplier;
import java.util.function.ToIntFunction;
import java.util.function.ToLongFunction;

/** What the tests of the document's sentences share; they extend it, so that its names can stand alone. */
class Checks {
  interface Call { long answer(); }

  static final Class<?> INDEX = IndexOutOfBoundsException.class;
  static final Class<?> ARGUMENT = IllegalArgumentException.class;
  static final Class<?> STATE = IllegalStateException.class;
  static final int MAX = Integer.MAX_VALUE;
  static final int MIN = Integer.MIN_VALUE;
  static final int NONE = StrideViews.NONE;

  private static String told = "";
  private static int sentences = 0;
  private static int checks = 0;
  private static int wrong = 0;

  /** A sentence of the document, or a part of one, by its very words, and what tells whether it holds. */
  static void sentence(String where, String words, Runnable test) {
    told = where + ": " + words;
    sentences++;
    try {
      test.run();
    } catch (RuntimeException e) {
      complain("ended by " + e);
      e.printStackTrace(System.out);
    }
  }

  static void end() {
    System.out.println(sentences + " sentences, " + checks + " checks, " + wrong + " wrong");
    if (wrong != 0) System.exit(1);
  }

  private static void complain(String text) {
    wrong++;
    int line = 0;
    for (StackTraceElement e : new Throwable().getStackTrace()) {
      if (!e.getClassName().equals("Checks")) { line = e.getLineNumber(); break; }
    }
    System.out.println(told + " (line " + line + "): " + text);
  }

  static void due(long want, long got) {
    checks++;
    if (got != want) complain("answered " + got + ", due is " + want);
  }

  static void due(boolean want, boolean got) {
    due(want ? 1 : 0, got ? 1 : 0);
  }

  // The very class: what the machine throws by itself is of a class below it.
  static void dueThrow(Class<?> want, Call call) {
    checks++;
    try {
      long got = call.answer();
      complain("answered " + got + ", due is " + want.getSimpleName());
    } catch (RuntimeException e) {
      if (e.getClass() != want) complain("threw " + e.getClass().getSimpleName() + ", due is " + want.getSimpleName());
    }
  }

  static void items(StrideViews x, int view, long... want) {
    List<Long> a = new ArrayList<>();
    List<Long> b = new ArrayList<>();
    for (long w : want) a.add(w);
    for (int i = 0; i < x.told(view, 3); i++) b.add(x.at(view, i));
    checks++;
    if (!a.equals(b)) complain("items of view " + view + " are " + b + ", due are " + a);
  }

  /** START, then EXTENT and STEP of each AXIS. */
  static void lies(StrideViews x, int view, int... want) {
    List<Integer> a = new ArrayList<>();
    List<Integer> b = new ArrayList<>();
    for (int w : want) a.add(w);
    b.add(x.told(view, 1));
    for (int k = 0; k < x.told(view, 2); k++) {
      b.add(x.axis(view, k, 0));
      b.add(x.axis(view, k, 1));
    }
    checks++;
    if (!a.equals(b)) complain("view " + view + " lies " + b + ", due is " + a);
  }

  /** The call throws, and then the object tells what a twin tells on which it was never called. */
  static void dueUnchanged(Class<?> want, Supplier<StrideViews> made, ToLongFunction<StrideViews> call) {
    StrideViews x = made.get();
    dueThrow(want, () -> call.applyAsLong(x));
    List<Long> a = allOf(made.get());
    List<Long> b = allOf(x);
    checks++;
    if (!a.equals(b)) complain("tells " + b + ", due is " + a);
  }

  // Not more than ten views and twelve items of each, as an object answers 512 calls.
  private static List<Long> allOf(StrideViews x) {
    List<Long> all = new ArrayList<>();
    for (int what = 0; what < 2; what++) all.add((long) x.count(what));
    for (int s = 0; s < x.count(0); s++) {
      for (int what = 0; what < 3; what++) all.add((long) x.stored(s, what));
    }
    for (int v = 0; v < Math.min(10, x.count(1)); v++) {
      for (int what = 0; what < 7; what++) all.add((long) x.told(v, what));
      for (int k = 0; k < x.told(v, 2); k++) {
        for (int what = 0; what < 2; what++) all.add((long) x.axis(v, k, what));
      }
      for (int i = 0; i < Math.min(12, x.told(v, 3)); i++) all.add(x.at(v, i));
    }
    return all;
  }

  /** A store that holds 0, 1, .. n - 1 (or their lowest bits), and its view 0. */
  static StrideViews counted(int lane, int n) {
    StrideViews x = new StrideViews();
    int v = x.store(lane, n);
    for (int i = 0; i < n; i++) x.put(v, i, i);
    return x;
  }

  /** 0, 1, .. 5 as view 0, and as view 1 in 2 lines of 3. */
  static StrideViews table() {
    StrideViews x = counted(2, 6);
    x.shape(0, 2, 3, NONE);
    return x;
  }

  static StrideViews fullOfViews() {
    StrideViews x = table();
    fillViews(x, 0);
    return x;
  }

  static StrideViews fullOfStores() {
    StrideViews x = table();
    fillStores(x, 0);
    return x;
  }

  static void fillViews(StrideViews x, int leave) {
    while (x.count(1) < 80 - leave) x.turn(0, 0, 0);
  }

  static void fillStores(StrideViews x, int leave) {
    while (x.count(0) < 12 - leave) x.store(0, 1);
  }

  /** With room for one view more the call makes the view 79, and then no other one. */
  static void dueLastView(ToIntFunction<StrideViews> maker) {
    StrideViews x = table();
    fillViews(x, 1);
    due(79, maker.applyAsInt(x));
    dueFull(x, maker);
  }

  /** With room for one store more the call makes the store 11, and then no other one. */
  static void dueLastStore(ToIntFunction<StrideViews> maker) {
    StrideViews x = table();
    fillStores(x, 1);
    due(11, x.told(maker.applyAsInt(x), 0));
    dueFull(x, maker);
  }

  private static void dueFull(StrideViews x, ToIntFunction<StrideViews> maker) {
    int stores = x.count(0);
    int views = x.count(1);
    dueThrow(STATE, () -> maker.applyAsInt(x));
    due(stores, x.count(0));
    due(views, x.count(1));
  }

  /** Each call that makes a view, as it can be made on a table. */
  static List<ToIntFunction<StrideViews>> makers() {
    return List.of(
        x -> x.store(0, 1), x -> x.slice(1, 0, 0, 1, 1), x -> x.pick(1, 0, 0), x -> x.turn(1, 0, 1),
        x -> x.spread(1, 0, 1), x -> x.diagonal(1, 0, 1), x -> x.shape(1, 3, 2, NONE), x -> x.compact(1, 0),
        x -> x.fold(0, 1, 0));
  }
}
