import java.util.ArrayList;
import java.util.Arrays;
import java.util.HashSet;
import java.util.List;
import java.util.Set;

/**
 * Long runs of calls, the same ones each time, on the class and on a plain model of the document. The model
 * lists where every item of a view lies, and reads STARTS and STEPS from that list.
 */
public final class ModelTest {
  private static final int RUNS = 1500;
  private static final int CALLS = 512;

  /** What a call of the model throws; kind is 1 IndexOutOfBounds, 2 IllegalArgument, 3 IllegalState. */
  private static final class Refused extends RuntimeException {
    private static final long serialVersionUID = 1L;
    final int kind;
    Refused(int kind) { super(null, null, false, false); this.kind = kind; }
  }

  private static final class MView {
    final int store;
    final int[] extents;
    final int[] places;
    MView(int store, int[] extents, int[] places) {
      this.store = store;
      this.extents = extents;
      this.places = places;
    }
    int start() { return places.length == 0 ? 0 : places[0]; }
    int step(int axis) {
      if (places.length == 0 || extents[axis] < 2) return 0;
      int behind = 1;
      for (int k = axis + 1; k < extents.length; k++) behind *= extents[k];
      return places[behind] - places[0];
    }
    boolean fixed() {
      for (int k = 0; k < extents.length; k++) if (extents[k] >= 2 && step(k) == 0) return true;
      return false;
    }
  }

  private static final class Model {
    final List<long[]> stores = new ArrayList<>();
    final List<Integer> lanes = new ArrayList<>();
    final List<MView> views = new ArrayList<>();

    static void index(boolean good) { if (!good) throw new Refused(1); }
    static void argument(boolean good) { if (!good) throw new Refused(2); }
    static void state(boolean good) { if (!good) throw new Refused(3); }

    MView view(int v) { index(v >= 0 && v < views.size()); return views.get(v); }
    static void axisOf(MView v, int a) { index(a >= 0 && a < v.extents.length); }

    int add(MView v) { state(views.size() < 80); views.add(v); return views.size() - 1; }

    int addStore(int lane, int[] extents, long[] items) {
      state(stores.size() < 12 && views.size() < 80);
      stores.add(new long[items.length]);
      lanes.add(lane);
      int[] places = new int[items.length];
      for (int i = 0; i < items.length; i++) {
        places[i] = i;
        stores.get(stores.size() - 1)[i] = low(lane, items[i]);
      }
      return add(new MView(stores.size() - 1, extents, places));
    }

    static long low(int lane, long v) {
      int drop = 64 - (8 << lane);
      return v << drop >> drop;
    }

    /** Exact for 0 .. 1000000, and 1000001 for all above. */
    static int product(int[] extents) {
      for (int e : extents) if (e == 0) return 0;
      java.math.BigInteger p = java.math.BigInteger.ONE;
      for (int e : extents) p = p.multiply(java.math.BigInteger.valueOf(e));
      return p.min(java.math.BigInteger.valueOf(1000001)).intValue();
    }

    /** All indices of extents, in the order of the items. */
    static List<int[]> indices(int[] extents) {
      List<int[]> all = new ArrayList<>();
      int n = product(extents);
      int[] now = new int[extents.length];
      for (int i = 0; i < n; i++) {
        all.add(now.clone());
        for (int k = extents.length - 1; k >= 0; k--) {
          if (++now[k] < extents[k]) break;
          now[k] = 0;
        }
      }
      return all;
    }

    static int item(int[] extents, int[] index) {
      int i = 0;
      for (int k = 0; k < extents.length; k++) i = i * extents[k] + index[k];
      return i;
    }

    static int[] without(int[] row, int k) {
      int[] rest = new int[row.length - 1];
      for (int i = 0, j = 0; i < row.length; i++) if (i != k) rest[j++] = row[i];
      return rest;
    }

    static int[] with(int[] row, int k, int value) {
      int[] more = new int[row.length + 1];
      for (int i = 0, j = 0; i < more.length; i++) more[i] = i == k ? value : row[j++];
      return more;
    }

    interface Back { int[] index(int[] index); }

    /** A view whose items are those of another one at the indices that back tells. */
    int derived(MView v, int[] extents, Back back) {
      int n = product(extents);
      state(n <= 3000);
      int[] places = new int[n];
      int i = 0;
      for (int[] index : indices(extents)) places[i++] = v.places[item(v.extents, back.index(index))];
      return add(new MView(v.store, extents, places));
    }

    long[] numbers(MView v) {
      long[] all = new long[v.places.length];
      for (int i = 0; i < all.length; i++) all[i] = stores.get(v.store)[v.places[i]];
      return all;
    }

    long store(int lane, int n) {
      argument(lane >= 0 && lane <= 3 && n >= 0 && n <= 300);
      return addStore(lane, new int[] {n}, new long[n]);
    }

    long slice(int view, int axis, int start, int step, int n) {
      MView v = view(view);
      axisOf(v, axis);
      argument(n >= 0 && step != 0);
      if (n > 0) {
        argument(start >= 0 && start < v.extents[axis]);
        long last = (long) start + (long) step * ((long) n - 1L);
        argument(last >= 0 && last < v.extents[axis]);
      }
      int[] extents = v.extents.clone();
      extents[axis] = n;
      return derived(v, extents, index -> {
        int[] old = index.clone();
        old[axis] = start + index[axis] * step;
        return old;
      });
    }

    long pick(int view, int axis, int at) {
      MView v = view(view);
      axisOf(v, axis);
      index(at >= 0 && at < v.extents[axis]);
      return derived(v, without(v.extents, axis), index -> with(index, axis, at));
    }

    static int[] swapped(int[] row, int a, int b) {
      int[] other = row.clone();
      other[a] = row[b];
      other[b] = row[a];
      return other;
    }

    long turn(int view, int a, int b) {
      MView v = view(view);
      axisOf(v, a);
      axisOf(v, b);
      return derived(v, swapped(v.extents, a, b), index -> swapped(index, a, b));
    }

    long spread(int view, int axis, int n) {
      MView v = view(view);
      index(axis >= 0 && axis <= v.extents.length);
      argument(n >= 0);
      state(v.extents.length < 4);
      return derived(v, with(v.extents, axis, n), index -> without(index, axis));
    }

    long diagonal(int view, int a, int b) {
      MView v = view(view);
      axisOf(v, a);
      axisOf(v, b);
      argument(a != b);
      int low = Math.min(a, b);
      int high = Math.max(a, b);
      int[] rest = without(without(v.extents, high), low);
      int[] extents = with(rest, rest.length, Math.min(v.extents[a], v.extents[b]));
      return derived(v, extents, index -> {
        int both = index[index.length - 1];
        return with(with(without(index, index.length - 1), low, both), high, both);
      });
    }

    long shape(int view, int a, int b, int c) {
      MView v = view(view);
      argument(a >= -1 && b >= -1 && c >= -1);
      int[] extents = Arrays.stream(new int[] {a, b, c}).filter(e -> e != -1).toArray();
      argument(product(extents) == v.places.length);
      MView w = new MView(v.store, extents, v.places);
      int i = 0;
      for (int[] index : indices(extents)) {
        int place = w.start();
        for (int k = 0; k < index.length; k++) place += index[k] * w.step(k);
        state(place == v.places[i++]);
      }
      return add(w);
    }

    long compact(int view, int lane) {
      MView v = view(view);
      argument(lane >= 0 && lane <= 3);
      state(v.places.length <= 300);
      return addStore(lane, v.extents, numbers(v));
    }

    long at(int view, int i) {
      MView v = view(view);
      index(i >= 0 && i < v.places.length);
      return stores.get(v.store)[v.places[i]];
    }

    long put(int view, int i, long value) {
      long was = at(view, i);
      MView v = view(view);
      state(!v.fixed());
      stores.get(v.store)[v.places[i]] = low(lanes.get(v.store), value);
      return was;
    }

    /** The numbers of a view for each item of one that it goes to. */
    long[] gone(MView v, MView to) {
      int lack = to.extents.length - v.extents.length;
      argument(lack >= 0);
      for (int k = 0; k < v.extents.length; k++) {
        argument(v.extents[k] == 1 || v.extents[k] == to.extents[k + lack]);
      }
      long[] all = new long[to.places.length];
      int i = 0;
      for (int[] index : indices(to.extents)) {
        int[] own = new int[v.extents.length];
        for (int k = 0; k < own.length; k++) own[k] = v.extents[k] == 1 ? 0 : index[k + lack];
        all[i++] = stores.get(v.store)[v.places[item(v.extents, own)]];
      }
      return all;
    }

    int putAll(MView to, long[] all) {
      state(!to.fixed());
      long[] before = numbers(to);
      for (int i = 0; i < all.length; i++) stores.get(to.store)[to.places[i]] = low(lanes.get(to.store), all[i]);
      long[] after = numbers(to);
      int others = 0;
      for (int i = 0; i < all.length; i++) if (before[i] != after[i]) others++;
      return others;
    }

    long copy(int from, int to) {
      MView v = view(from);
      MView w = view(to);
      return putAll(w, gone(v, w));
    }

    static long by(int act, long a, long b) {
      if (act == 0) return a + b;
      if (act == 1) return a - b;
      if (act == 2) return a * b;
      return (act == 3) == (a > b) ? a : b;
    }

    long act(int act, int a, int b, int to) {
      MView v = view(a);
      MView w = view(b);
      MView t = view(to);
      argument(act >= 0 && act <= 4);
      long[] first = gone(v, t);
      long[] second = gone(w, t);
      long[] all = new long[first.length];
      for (int i = 0; i < all.length; i++) all[i] = by(act, first[i], second[i]);
      return putAll(t, all);
    }

    long fold(int act, int view, int axis) {
      MView v = view(view);
      axisOf(v, axis);
      argument(act == 0 || act == 2 || act == 3 || act == 4);
      int[] extents = without(v.extents, axis);
      state(product(extents) <= 300);
      long[] all = new long[product(extents)];
      int i = 0;
      for (int[] index : indices(extents)) {
        long result = act == 0 ? 0 : act == 2 ? 1 : act == 3 ? Long.MIN_VALUE : Long.MAX_VALUE;
        for (int k = 0; k < v.extents[axis]; k++) {
          result = by(act, result, stores.get(v.store)[v.places[item(v.extents, with(index, axis, k))]]);
        }
        all[i++] = result;
      }
      return addStore(3, extents, all);
    }

    long shared(int a, int b) {
      MView v = view(a);
      MView w = view(b);
      if (v.store != w.store) return 0;
      Set<Integer> both = new HashSet<>();
      for (int p : v.places) both.add(p);
      Set<Integer> other = new HashSet<>();
      for (int p : w.places) other.add(p);
      both.retainAll(other);
      return both.size();
    }

    long same(int a, int b) {
      MView v = view(a);
      MView w = view(b);
      return Arrays.equals(v.extents, w.extents) && Arrays.equals(numbers(v), numbers(w)) ? 1 : 0;
    }

    long runs(int view) {
      MView v = view(view);
      int n = v.places.length;
      for (int i = 1; i < v.places.length; i++) if (v.places[i] - v.places[i - 1] == 1) n--;
      return n;
    }

    long told(int view, int what) {
      MView v = view(view);
      argument(what >= 0 && what <= 6);
      switch (what) {
        case 0: return v.store;
        case 1: return v.start();
        case 2: return v.extents.length;
        case 3: return v.places.length;
        case 4: return v.fixed() ? 1 : 0;
        case 5: return Arrays.stream(v.places).min().orElse(-1);
        default: return Arrays.stream(v.places).max().orElse(-1);
      }
    }

    long axis(int view, int axis, int what) {
      MView v = view(view);
      axisOf(v, axis);
      argument(what == 0 || what == 1);
      return what == 0 ? v.extents[axis] : v.step(axis);
    }

    long stored(int store, int what) {
      index(store >= 0 && store < stores.size());
      argument(what >= 0 && what <= 2);
      if (what == 0) return lanes.get(store);
      if (what == 1) return stores.get(store).length;
      return views.stream().filter(v -> v.store == store).count();
    }

    long count(int what) {
      argument(what == 0 || what == 1);
      return what == 0 ? stores.size() : views.size();
    }
  }

  private static long seed = 1;

  private static int roll(int n) {
    seed = seed * 6364136223846793005L + 1442695040888963407L;
    return (int) Math.floorMod(seed >>> 33, (long) n);
  }

  private static final int[] ODD = {-1, -2, 0, 1, 2, 3, 4, 5, 7, 80, 300, 301, 3000, 3001, 65536, 2097152,
    Integer.MAX_VALUE, Integer.MIN_VALUE, Integer.MAX_VALUE - 1, 1 << 30};

  /** Mostly the number that is asked for, and now and then one that may be wrong. */
  private static int or(int wanted) { return roll(25) == 0 ? ODD[roll(ODD.length)] : wanted; }

  private static long value() {
    switch (roll(6)) {
      case 0: return 1L << roll(64);
      case 1: return (1L << roll(64)) - 1;
      case 2: return -(1L << roll(64));
      case 3: return seed;
      default: return roll(21) - 10;
    }
  }

  private static final String[] NAMES = {"store", "slice", "pick", "turn", "spread", "diagonal", "shape",
    "compact", "at", "put", "copy", "act", "fold", "shared", "same", "runs", "told", "axis", "stored", "count"};
  private static final int[] OFTEN = {3, 12, 5, 6, 8, 7, 12, 2, 6, 14, 14, 14, 3, 4, 4, 4, 6, 3, 2, 1};

  private static int kind() {
    int all = 0;
    for (int o : OFTEN) all += o;
    int r = roll(all);
    int k = 0;
    while (r >= OFTEN[k]) r -= OFTEN[k++];
    return k;
  }

  private static int someView(Model m) { return m.views.isEmpty() ? 0 : or(roll(m.views.size())); }

  private static MView known(Model m, int v) {
    return v >= 0 && v < m.views.size() ? m.views.get(v) : new MView(0, new int[0], new int[1]);
  }

  private static int someAxis(MView v) { return v.extents.length == 0 ? or(0) : or(roll(v.extents.length)); }

  private static int extent(MView v, int axis) {
    return axis >= 0 && axis < v.extents.length ? v.extents[axis] : 1;
  }

  /** Three numbers whose product is n, or nearly, with NONE among them. */
  private static int[] factors(int n) {
    int[] three = {-1, -1, -1};
    int rest = n;
    for (int k = 0; k < 3; k++) {
      if (roll(4) == 0) continue;
      int f = 1;
      if (rest == 0) f = roll(4);
      else for (int t = 0; t < 8; t++) { int g = 1 + roll(rest); if (rest % g == 0) { f = g; break; } }
      three[k] = or(f);
      if (f != 0) rest /= f;
    }
    int last = roll(3);
    if (rest != 1) three[last] = three[last] <= 0 ? rest : (int) Math.min(100000L, (long) three[last] * rest);
    return three;
  }

  /** A view that is likely to go to another one: of some rolls, the first that does. */
  private static int likely(Model m, int to) {
    int v = someView(m);
    for (int tries = 0; tries < 30; tries++) {
      try {
        m.gone(m.view(v), m.view(to));
        return v;
      } catch (Refused e) {
        v = someView(m);
      }
    }
    return v;
  }

  private static int[] slicing(int extent) {
    if (extent <= 0 || roll(30) == 0) return new int[] {or(roll(5)), or(1 + roll(3)), or(0)};
    int start = roll(extent);
    int step = roll(3) == 0 ? -1 - roll(3) : 1 + roll(3);
    if (roll(3) == 0) { start = roll(2) == 0 ? 0 : extent - 1; step = start == 0 ? 1 + roll(2) : -1 - roll(2); }
    int most = step > 0 ? (extent - 1 - start) / step + 1 : start / -step + 1;
    int n = roll(3) == 0 ? 1 + roll(most) : most;
    return new int[] {or(start), or(step), or(roll(25) == 0 ? n + 1 : n)};
  }

  /** The arguments of a call; a long, as put takes one. */
  private static long[] arguments(Model m, int kind) {
    int v = someView(m);
    MView w = known(m, v);
    int a = someAxis(w);
    switch (kind) {
      case 0: return new long[] {or(roll(4)), or(roll(6) == 0 ? 300 : roll(3) == 0 ? roll(4) : roll(61))};
      case 1: { int[] s = slicing(extent(w, a)); return new long[] {v, a, s[0], s[1], s[2]}; }
      case 2: return new long[] {v, a, or(roll(Math.max(1, extent(w, a))))};
      case 3: return new long[] {v, a, someAxis(w)};
      case 4: return new long[] {v, or(roll(w.extents.length + 1)), or(roll(5))};
      case 5: return new long[] {v, a, someAxis(w)};
      case 6: { int[] f = factors(w.places.length); return new long[] {v, f[0], f[1], f[2]}; }
      case 7: return new long[] {v, or(roll(4))};
      case 8: return new long[] {v, or(roll(Math.max(1, w.places.length)))};
      case 9: return new long[] {v, or(roll(Math.max(1, w.places.length))), value()};
      case 10: return new long[] {likely(m, v), v};
      case 11: return new long[] {or(roll(5)), likely(m, v), likely(m, v), v};
      case 12: return new long[] {or(roll(5)), v, a};
      case 13: case 14: return new long[] {v, roll(2) == 0 ? likely(m, v) : someView(m)};
      case 15: return new long[] {v};
      case 16: return new long[] {v, or(roll(7))};
      case 17: return new long[] {v, a, or(roll(2))};
      case 18: return new long[] {or(roll(Math.max(1, m.stores.size()))), or(roll(3))};
      default: return new long[] {or(roll(2))};
    }
  }

  private static int i(long[] p, int k) { return (int) p[k]; }

  private static long onModel(Model m, int kind, long[] p) {
    switch (kind) {
      case 0: return m.store(i(p, 0), i(p, 1));
      case 1: return m.slice(i(p, 0), i(p, 1), i(p, 2), i(p, 3), i(p, 4));
      case 2: return m.pick(i(p, 0), i(p, 1), i(p, 2));
      case 3: return m.turn(i(p, 0), i(p, 1), i(p, 2));
      case 4: return m.spread(i(p, 0), i(p, 1), i(p, 2));
      case 5: return m.diagonal(i(p, 0), i(p, 1), i(p, 2));
      case 6: return m.shape(i(p, 0), i(p, 1), i(p, 2), i(p, 3));
      case 7: return m.compact(i(p, 0), i(p, 1));
      case 8: return m.at(i(p, 0), i(p, 1));
      case 9: return m.put(i(p, 0), i(p, 1), p[2]);
      case 10: return m.copy(i(p, 0), i(p, 1));
      case 11: return m.act(i(p, 0), i(p, 1), i(p, 2), i(p, 3));
      case 12: return m.fold(i(p, 0), i(p, 1), i(p, 2));
      case 13: return m.shared(i(p, 0), i(p, 1));
      case 14: return m.same(i(p, 0), i(p, 1));
      case 15: return m.runs(i(p, 0));
      case 16: return m.told(i(p, 0), i(p, 1));
      case 17: return m.axis(i(p, 0), i(p, 1), i(p, 2));
      case 18: return m.stored(i(p, 0), i(p, 1));
      default: return m.count(i(p, 0));
    }
  }

  private static long onClass(StrideViews x, int kind, long[] p) {
    switch (kind) {
      case 0: return x.store(i(p, 0), i(p, 1));
      case 1: return x.slice(i(p, 0), i(p, 1), i(p, 2), i(p, 3), i(p, 4));
      case 2: return x.pick(i(p, 0), i(p, 1), i(p, 2));
      case 3: return x.turn(i(p, 0), i(p, 1), i(p, 2));
      case 4: return x.spread(i(p, 0), i(p, 1), i(p, 2));
      case 5: return x.diagonal(i(p, 0), i(p, 1), i(p, 2));
      case 6: return x.shape(i(p, 0), i(p, 1), i(p, 2), i(p, 3));
      case 7: return x.compact(i(p, 0), i(p, 1));
      case 8: return x.at(i(p, 0), i(p, 1));
      case 9: return x.put(i(p, 0), i(p, 1), p[2]);
      case 10: return x.copy(i(p, 0), i(p, 1));
      case 11: return x.act(i(p, 0), i(p, 1), i(p, 2), i(p, 3));
      case 12: return x.fold(i(p, 0), i(p, 1), i(p, 2));
      case 13: return x.shared(i(p, 0), i(p, 1));
      case 14: return x.same(i(p, 0), i(p, 1)) ? 1 : 0;
      case 15: return x.runs(i(p, 0));
      case 16: return x.told(i(p, 0), i(p, 1));
      case 17: return x.axis(i(p, 0), i(p, 1), i(p, 2));
      case 18: return x.stored(i(p, 0), i(p, 1));
      default: return x.count(i(p, 0));
    }
  }

  private static final String[] THROWN = {"", "throws.IndexOutOfBoundsException",
    "throws.IllegalArgumentException", "throws.IllegalStateException"};

  private static String modelAnswer(Model m, int kind, long[] p) {
    try {
      return Long.toString(onModel(m, kind, p));
    } catch (Refused e) {
      return THROWN[e.kind];
    }
  }

  private static String classAnswer(StrideViews x, int kind, long[] p) {
    try {
      return Long.toString(onClass(x, kind, p));
    } catch (RuntimeException e) {
      return "throws." + e.getClass().getSimpleName();
    }
  }

  private static final long[][] answered = new long[NAMES.length][4];

  /** The first difference of a run, or null. */
  private static String run() {
    Model m = new Model();
    StrideViews x = new StrideViews();
    for (int c = 0; c < CALLS; c++) {
      int kind = m.stores.isEmpty() && roll(20) != 0 ? 0 : kind();
      long[] p = arguments(m, kind);
      String due = modelAnswer(m, kind, p);
      String got = classAnswer(x, kind, p);
      int t = Arrays.asList(THROWN).indexOf(due);
      answered[kind][Math.max(t, 0)]++;
      if (!due.equals(got)) return "call " + c + ", " + NAMES[kind] + Arrays.toString(p) + " answered " + got + ", due is " + due;
      if (c % 64 == 63) {
        String other = whole(m, x);
        if (other != null) return "after call " + c + ": " + other;
      }
    }
    return null;
  }

  /** Everything that can be asked of the state. */
  private static String whole(Model m, StrideViews x) {
    if (x.count(0) != m.stores.size() || x.count(1) != m.views.size()) return "counts";
    for (int s = 0; s < m.stores.size(); s++) {
      for (int what = 0; what < 3; what++) if (x.stored(s, what) != m.stored(s, what)) return "store " + s;
    }
    for (int v = 0; v < m.views.size(); v++) {
      for (int what = 0; what < 7; what++) if (x.told(v, what) != m.told(v, what)) return "told " + v + ", " + what;
      MView w = m.views.get(v);
      for (int k = 0; k < w.extents.length; k++) {
        if (x.axis(v, k, 0) != w.extents[k] || x.axis(v, k, 1) != w.step(k)) return "axis " + v + ", " + k;
      }
      for (int i = 0; i < w.places.length; i++) if (x.at(v, i) != m.at(v, i)) return "at " + v + ", " + i;
    }
    return null;
  }

  public static void main(String[] args) {
    int wrong = 0;
    for (int r = 1; r <= RUNS; r++) {
      seed = r * 7919L;
      String other = run();
      if (other != null) { wrong++; System.out.println("run " + r + ": " + other); }
    }
    // A kind of answer that never came would have been tested by nothing.
    for (int k = 0; k < NAMES.length; k++) {
      if (args.length > 0) System.out.println(NAMES[k] + " " + Arrays.toString(answered[k]));
      if (answered[k][0] == 0) { wrong++; System.out.println(NAMES[k] + " was never answered"); }
    }
    System.out.println(RUNS + " runs of " + CALLS + " calls, " + wrong + " wrong");
    if (wrong != 0) System.exit(1);
  }
}
