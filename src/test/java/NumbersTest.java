import java.lang.reflect.Constructor;
import java.lang.reflect.Field;
import java.lang.reflect.Method;
import java.math.BigInteger;
import java.util.Arrays;

/**
 * The long numbers inside the class, which all promises rest on, beside those of the library. Their limbs are mostly all ones, all
 * zeros or close to that, as the rare steps of the long division want; no text on the tape can be made to reach these on purpose.
 */
public final class NumbersTest {
  private static final int ROUNDS = 60000, BITS = 30, MASK = (1 << BITS) - 1, MOST_LIMBS = 6;
  private static final Check CHECK = new Check();
  private static final Chance CHANCE = new Chance(5);
  private static Object numbers;
  private static Field row;
  private static Field top;
  private static Field rest;

  public static void main(String[] args) throws ReflectiveOperationException {
    Class<?> kind = Class.forName("CellDecide$Numbers");
    Constructor<?> make = kind.getDeclaredConstructor(int.class);
    make.setAccessible(true);
    numbers = make.newInstance(16);
    row = field(kind, "w");
    top = field(kind, "top");
    rest = field(kind, "rest");
    for (int i = 0; i < ROUNDS; i++) ask(kind);
    CHECK.finish();
  }

  private static Field field(Class<?> kind, String name) throws ReflectiveOperationException {
    Field field = kind.getDeclaredField(name);
    field.setAccessible(true);
    return field;
  }

  private static void ask(Class<?> kind) throws ReflectiveOperationException {
    call(kind, "clear");
    BigInteger a = number(), b = number();
    if (CHANCE.pick(3) == 0) a = a.multiply(b).add(number().shiftRight(BITS));
    int one = put(kind, a), two = put(kind, b), power = CHANCE.pick(140) - 70;
    String of = a + " and " + b;
    CHECK.due("product of " + of, get((int) call(kind, "mul", one, two)), a.multiply(b).toString());
    CHECK.due("sum of " + of, get((int) call(kind, "sum", one, two, 1)), a.add(b).toString());
    CHECK.due("difference of " + of, get((int) call(kind, "sum", one, two, -1)), a.subtract(b).toString());
    CHECK.due("order of " + of, (int) call(kind, "compare", one, two), a.compareTo(b));
    CHECK.due(a + " times 2 to the " + power, get((int) call(kind, "shift", one, power)), a.shiftLeft(power).toString());
    if (b.signum() == 0) return;
    CHECK.due("quotient of " + of, get((int) call(kind, "div", one, two)), a.divide(b).toString());
    CHECK.due("rest of " + of, get(rest.getInt(numbers)), a.remainder(b).toString());
    CHECK.due("common divisor of " + of, get((int) call(kind, "gcd", one, two)), a.gcd(b).toString());
  }

  private static Object call(Class<?> kind, String name, Object... arguments) throws ReflectiveOperationException {
    Class<?>[] types = new Class<?>[arguments.length];
    Arrays.fill(types, int.class);
    Method method = kind.getDeclaredMethod(name, types);
    method.setAccessible(true);
    return method.invoke(numbers, arguments);
  }

  private static BigInteger number() {
    BigInteger result = BigInteger.ZERO;
    int limbs = CHANCE.pick(MOST_LIMBS);
    for (int i = 0; i < limbs; i++) {
      int[] limb = {0, 0, 1, MASK, MASK, MASK - 1, 1 << BITS - 1, (1 << BITS - 1) - 1, CHANCE.pick(MASK), CHANCE.pick(9)};
      result = result.shiftLeft(BITS).or(BigInteger.valueOf(limb[CHANCE.pick(limb.length)]));
    }
    return CHANCE.pick(2) == 0 ? result : result.negate();
  }

  /** Makes the number of its limbs, the highest first. */
  private static int put(Class<?> kind, BigInteger value) throws ReflectiveOperationException {
    int result = (int) call(kind, "small", 0);
    int limbs = (value.abs().bitLength() + BITS - 1) / BITS;
    for (int i = limbs - 1; i >= 0; i--) {
      int limb = value.abs().shiftRight(i * BITS).and(BigInteger.valueOf(MASK)).intValueExact();
      result = (int) call(kind, "sum", call(kind, "shift", result, BITS), call(kind, "small", limb), value.signum());
    }
    return result;
  }

  private static String get(int place) throws ReflectiveOperationException {
    int[] limbs = (int[]) row.get(numbers);
    CHECK.due("places below the top", place < top.getInt(numbers) ? 1 : 0, 1);
    BigInteger result = BigInteger.ZERO;
    for (int i = Math.abs(limbs[place]); i > 0; i--) result = result.shiftLeft(BITS).or(BigInteger.valueOf(limbs[place + i]));
    return (limbs[place] < 0 ? result.negate() : result).toString();
  }
}
