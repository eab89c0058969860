import java.lang.reflect.Constructor;
import java.lang.reflect.Field;
import java.lang.reflect.Method;
import java.lang.reflect.Modifier;
import java.util.Arrays;
import java.util.Comparator;

/** No call throws, for any arguments; and the face is the document's. */
public final class EndsTest {
  private static final int[] ARGUMENTS = {Integer.MIN_VALUE, -1000001, -65537, -41, -2, -1, 0, 1, 2, 3, 5, 7, 8, 9,
      12, 15, 16, 31, 32, 39, 40, 41, 60, 99, 120, 199, 200, 255, 9999, 65535, 65536, Integer.MAX_VALUE};
  private static final String[] FACE = {"ahead 3", "as 2", "breaks 1", "change 3", "closed 1", "copy 5", "count 1",
      "cut 2", "feed 2", "fits 2", "go 1", "hold 2", "hurdles 1", "hurdlesFor 1", "image 0", "judge 1", "kindFor 2",
      "kinds 2", "lay 2", "layAll 1", "lean 3", "leaning 1", "leans 1", "load 1", "now 1", "odds 3", "of 2", "place 2",
      "plant 2", "seed 1", "sheet 3", "slip 3", "status 1", "strong 2", "tear 0", "text 0", "undo 0", "weightFor 2",
      "whole 0", "wipe 0", "words 2", "write 3"};
  private static long state = 7;

  private static int below(int n) {
    state = state * 6364136223846793005L + 1442695040888963407L;
    return (int) ((state >>> 33) % n);
  }

  public static void main(String[] args) throws Exception {
    Method[] face = WordHedge.class.getMethods();
    face = Arrays.stream(face).filter(m -> m.getDeclaringClass() == WordHedge.class).toArray(Method[]::new);
    Arrays.sort(face, Comparator.comparing(Method::getName));
    isFace(face);
    for (int run = 0; run < 400; run++) {
      WordHedge x = new WordHedge();
      for (int i = 0; i < 512; i++) {
        call(x, face[below(face.length)]);
      }
    }
    Due.end();
  }

  private static void isFace(Method[] face) {
    Due.is("methods of the face", face.length, FACE.length);
    for (int i = 0; i < FACE.length && i < face.length; i++) {
      String is = face[i].getName() + " " + face[i].getParameterCount();
      Due.is("face: " + is + " is " + FACE[i], is.equals(FACE[i]) ? 1 : 0, 1);
      Class<?> answer = is.startsWith("odds") ? long.class : int.class;
      Due.is("answer of " + is, face[i].getReturnType() == answer ? 1 : 0, 1);
    }
    for (Method m : WordHedge.class.getDeclaredMethods()) {
      boolean allowed = Modifier.isPublic(m.getModifiers()) || Modifier.isPrivate(m.getModifiers());
      Due.is("private or public: " + m.getName(), allowed ? 1 : 0, 1);
    }
    for (Field f : WordHedge.class.getDeclaredFields()) {
      Due.is("private: " + f.getName(), Modifier.isPrivate(f.getModifiers()) ? 1 : 0, 1);
    }
    Constructor<?>[] made = WordHedge.class.getConstructors();
    Due.is("constructors", made.length, 1);
    Due.is("final", Modifier.isFinal(WordHedge.class.getModifiers()) ? 1 : 0, 1);
  }

  private static void call(WordHedge x, Method m) {
    Object[] arguments = new Object[m.getParameterCount()];
    for (int i = 0; i < arguments.length; i++) {
      arguments[i] = ARGUMENTS[below(3) > 0 ? 5 + below(10) : below(ARGUMENTS.length)];
    }
    try {
      m.invoke(x, arguments);
    } catch (ReflectiveOperationException thrown) {
      Due.is(m.getName() + Arrays.toString(arguments) + " threw " + thrown.getCause() + ", calls that throw", 1, 0);
    }
  }
}
