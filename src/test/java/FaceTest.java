import java.lang.reflect.Constructor;
import java.lang.reflect.Field;
import java.lang.reflect.Member;
import java.lang.reflect.Method;
import java.lang.reflect.Modifier;
import java.util.Set;
import java.util.TreeSet;

/** The public face: just the constants, the constructor and the methods of the document. */
public final class FaceTest {
  public static void main(String[] args) {
    Check check = new Check();
    Set<String> want = new TreeSet<>(Set.of("NONE=-1", "STATE=-101", "OUTSIDE=-102", "MANY=-103", "CellDecide()",
        "int feed(int, int, int, int, int) throws IllegalStateException", "void end(int) throws IllegalArgumentException", "int read()", "int fault()", "int decide()", "int holds(int, int, int, int)",
        "int solve()", "int interval(int, int)", "int members()", "int meet()", "int point(int, int)", "int write(int, int, int)",
        "int writeLeast(int, int)", "int writePoint(int, int, int)", "int writePointLeast(int, int)", "int at(int)"));
    Set<String> got = new TreeSet<>();
    for (Field f : CellDecide.class.getDeclaredFields()) {
      if (isOpen(f)) got.add(f.getName() + "=" + constant(f));
    }
    for (Constructor<?> c : CellDecide.class.getDeclaredConstructors()) {
      if (isOpen(c)) got.add("CellDecide(" + parameters(c.getParameterTypes()) + ")");
    }
    for (Method m : CellDecide.class.getDeclaredMethods()) {
      if (isOpen(m)) got.add(m.getReturnType() + " " + m.getName() + "(" + parameters(m.getParameterTypes()) + ")" + thrown(m));
    }
    check.due("the face", got.toString(), want.toString());
    check.due("the class is final", Modifier.isFinal(CellDecide.class.getModifiers()) ? 1 : 0, 1);
    check.finish();
  }

  private static boolean isOpen(Member member) {
    return !Modifier.isPrivate(member.getModifiers()) && !member.isSynthetic();
  }

  private static String thrown(Method method) {
    StringBuilder text = new StringBuilder();
    for (Class<?> type : method.getExceptionTypes()) text.append(" throws ").append(type.getSimpleName());
    return text.toString();
  }

  private static String constant(Field field) {
    try {
      return String.valueOf(field.get(null));
    } catch (IllegalAccessException e) {
      return "hidden";
    }
  }

  private static String parameters(Class<?>[] types) {
    StringBuilder text = new StringBuilder();
    for (Class<?> type : types) text.append(text.length() == 0 ? "" : ", ").append(type);
    return text.toString();
  }
}
