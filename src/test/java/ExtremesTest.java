import java.lang.reflect.InvocationTargetException;
import java.lang.reflect.Method;
import java.lang.reflect.Modifier;

/** Every method with numbers at and beyond all edges, in several states: none throws. */
public final class ExtremesTest {
  private static final Due DUE = new Due("ExtremesTest");
  private static final int[] EDGES = {Integer.MIN_VALUE, -1000003, -2, -1, 0, 1, 2, 4, 5, 7, 8, 12,
      29, 30, 31, 32, 255, 256, 1 << 30, Integer.MAX_VALUE};
  private static final int CALLS = 400;

  public static void main(String[] args) throws Exception {
    for (int state = 0; state < 4; state++) {
      for (Method m : HandedOn.class.getDeclaredMethods()) {
        if (Modifier.isPublic(m.getModifiers())) {
          all(state, m);
        }
      }
    }
    DUE.end();
  }

  /** Nothing, a few, all that there is room for, and that with SHOWINGS and a LAW in FORCE. */
  private static Object make(Class<?> c, int state) throws Exception {
    Object x = c.getDeclaredConstructor().newInstance();
    int people = new int[] {0, 2, 8, 8}[state];
    int arts = new int[] {0, 1, 5, 5}[state];
    for (int i = 0; i < people; i++) {
      call(x, "one", i, 9 - i, 4);
    }
    for (int i = 0; i < arts; i++) {
      call(x, "art", 1 + i, 1 + i % 3);
      call(x, "know", i % people, i, 9);
    }
    for (int i = 0; state == 3 && i < 60; i++) {
      call(x, "show", i % 30, i % 8, i % 5, 1 << i % 7 | 1 << i % 3);
    }
    for (int i = 0; state == 3 && i < 6; i++) {
      call(x, "feed", 0x6c656172, 0x6e74206b, 0x6e6f7773, 0x2f686173, 0x20202020);
      call(x, "law");
      call(x, "force", i);
    }
    if (state > 1) {
      call(x, "feed", 0x01020304, 0x05060708, 0, 0, 0);
      call(x, "image", 0);
    }
    return x;
  }

  private static int call(Object x, String name, int... a) throws Exception {
    Class<?>[] types = new Class<?>[a.length];
    Object[] boxed = new Object[a.length];
    for (int i = 0; i < a.length; i++) {
      types[i] = int.class;
      boxed[i] = a[i];
    }
    try {
      return (Integer) x.getClass().getDeclaredMethod(name, types).invoke(x, boxed);
    } catch (InvocationTargetException e) {
      e.getCause().printStackTrace(System.out);
      return Integer.MIN_VALUE + 1;
    }
  }

  private static void all(int state, Method m) throws Exception {
    int n = m.getParameterCount();
    boolean dear = m.getName().equals("alike") || m.getName().equals("well");
    int step = n == 4 ? 3 : n == 5 ? 9 : 1;
    int[] at = new int[n];
    boolean more = true;
    Object x = make(HandedOn.class, state);
    Object plain = make(PlainModel.class, state);
    for (int calls = 1; more; calls++) {
      if (calls % CALLS == 0) {
        x = make(HandedOn.class, state);
        plain = make(PlainModel.class, state);
      }
      int[] a = new int[n];
      StringBuilder told = new StringBuilder("state " + state + ", " + m.getName());
      for (int i = 0; i < n; i++) {
        a[i] = EDGES[at[i]];
        told.append(" ").append(a[i]);
      }
      if (!(dear && a[0] == 12)) {
        DUE.is(told.toString(), call(x, m.getName(), a), call(plain, m.getName(), a));
      }
      more = false;
      for (int i = 0; i < n && !more; i++) {
        at[i] += i == 0 ? 1 : step;
        more = at[i] < EDGES.length;
        at[i] = more ? at[i] : 0;
      }
    }
  }
}
