import java.lang.reflect.Constructor;
import java.lang.reflect.Field;
import java.lang.reflect.Method;
import java.lang.reflect.Modifier;
import java.util.ArrayList;
import java.util.Arrays;
import java.util.List;
import java.util.Set;
import java.util.TreeSet;

/** The class has the document's face and nothing else that can be seen from outside. */
public final class FaceTest {
  private static final String X = " IndexOutOfBoundsException";
  private static final String A = " IllegalArgumentException";
  private static final String S = " IllegalStateException";

  private static final String[] FACE = {
    "StrideViews() throws",
    "int store(int, int) throws" + A + S,
    "int slice(int, int, int, int, int) throws" + X + A + S,
    "int pick(int, int, int) throws" + X + S,
    "int turn(int, int, int) throws" + X + S,
    "int spread(int, int, int) throws" + X + A + S,
    "int diagonal(int, int, int) throws" + X + A + S,
    "int shape(int, int, int, int) throws" + X + A + S,
    "int compact(int, int) throws" + X + A + S,
    "long at(int, int) throws" + X,
    "long put(int, int, long) throws" + X + S,
    "int copy(int, int) throws" + X + A + S,
    "int act(int, int, int, int) throws" + X + A + S,
    "int fold(int, int, int) throws" + X + A + S,
    "int shared(int, int) throws" + X,
    "boolean same(int, int) throws" + X,
    "int runs(int) throws" + X,
    "int told(int, int) throws" + X + A,
    "int axis(int, int, int) throws" + X + A,
    "int stored(int, int) throws" + X + A,
    "int count(int) throws" + A,
    "int NONE = -1",
  };

  private static String names(Class<?>[] classes, String between) {
    List<String> all = new ArrayList<>();
    for (Class<?> c : classes) all.add(c.getSimpleName());
    return String.join(between, all);
  }

  private static String thrown(Class<?>[] classes) {
    return " throws" + (classes.length == 0 ? "" : " " + names(classes, " "));
  }

  private static Set<String> seen() throws IllegalAccessException {
    Set<String> seen = new TreeSet<>();
    for (Constructor<?> c : StrideViews.class.getDeclaredConstructors()) {
      if (Modifier.isPrivate(c.getModifiers())) continue;
      seen.add("StrideViews(" + names(c.getParameterTypes(), ", ") + ")" + thrown(c.getExceptionTypes()));
    }
    for (Method m : StrideViews.class.getDeclaredMethods()) {
      if (Modifier.isPrivate(m.getModifiers())) continue;
      String back = m.getReturnType().getSimpleName();
      String takes = names(m.getParameterTypes(), ", ");
      seen.add(back + " " + m.getName() + "(" + takes + ")" + thrown(m.getExceptionTypes()));
    }
    for (Field f : StrideViews.class.getDeclaredFields()) {
      if (Modifier.isPrivate(f.getModifiers())) continue;
      seen.add(f.getType().getSimpleName() + " " + f.getName() + " = " + f.get(null));
    }
    return seen;
  }

  /** No private method bears the name of a public one. */
  private static Set<String> doubled() {
    Set<String> open = new TreeSet<>();
    Set<String> hidden = new TreeSet<>();
    for (Method m : StrideViews.class.getDeclaredMethods()) {
      (Modifier.isPrivate(m.getModifiers()) ? hidden : open).add(m.getName());
    }
    for (Class<?> inside : StrideViews.class.getDeclaredClasses()) {
      for (Method m : inside.getDeclaredMethods()) hidden.add(m.getName());
    }
    hidden.retainAll(open);
    return hidden;
  }

  public static void main(String[] args) throws IllegalAccessException {
    int wrong = 0;
    Set<String> want = new TreeSet<>(Arrays.asList(FACE));
    Set<String> seen = seen();
    for (String w : want) {
      if (!seen.contains(w)) { wrong++; System.out.println("the face lacks: " + w); }
    }
    for (String s : seen) {
      if (!want.contains(s)) { wrong++; System.out.println("the face has besides: " + s); }
    }
    for (String d : doubled()) { wrong++; System.out.println("a private method is named: " + d); }
    int kind = StrideViews.class.getModifiers();
    if (!Modifier.isPublic(kind) || !Modifier.isFinal(kind)) { wrong++; System.out.println("not public and final"); }
    System.out.println(wrong == 0 ? "the face is the document's" : wrong + " wrong");
    if (wrong != 0) System.exit(1);
  }
}
