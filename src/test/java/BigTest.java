import java.lang.reflect.Constructor;
import java.lang.reflect.Field;
import java.lang.reflect.Method;
import java.math.BigInteger;
import java.util.Random;

/**
 * The whole numbers inside the program against BigInteger, also where no row of beams leads: numbers
 * longer than a register's first room, limbs of 0 and of 999999999, numbers that cross 0.
 */
public final class BigTest {
    private static final BigInteger BASE = BigInteger.valueOf(1_000_000_000L);
    private static final int ROUNDS = 20_000;
    private static final Random RANDOM = new Random(20);
    private static int wrong = 0;

    public static void main(String[] args) throws ReflectiveOperationException {
        for (int i = 0; i < ROUNDS && wrong < 20; i++) {
            int most = i % 50 == 0 ? 45 : i % 3 == 0 ? 3 : 9;
            addTimes(some(most), some(most), RANDOM.nextLong() % 4_000_000_000L);
            product(some(most), some(most));
            split(some(2 * most), some(most));
            greatestDivisor(some(most), some(most), some(most));
            same(some(most), some(most));
            parts(some(most), some(most));
        }
        BigInteger one = BigInteger.ONE;
        for (int size = 1; size < 12; size++) {
            BigInteger power = BASE.pow(size);
            addTimes(power, one, -1);
            addTimes(one, power, -1);
            addTimes(power, power, -1);
            split(power.pow(2), power);
            split(power.pow(2).subtract(one), power);
            split(power.pow(2).subtract(one), power.subtract(one));
            split(power.pow(2), power.subtract(one));
        }
        split(BigInteger.TEN, BigInteger.ZERO);
        same(BigInteger.ZERO, one);
        System.out.println("big: " + wrong + " wrong");
        if (wrong > 0) {
            System.exit(1);
        }
    }

    private static void due(String what, BigInteger got, BigInteger want) {
        if (!got.equals(want)) {
            wrong++;
            System.out.println("big: " + what + " answered " + got + ", due is " + want);
        }
    }

    private static BigInteger some(int most) {
        BigInteger sum = BigInteger.ZERO;
        int size = RANDOM.nextInt(most + 1);
        for (int i = 0; i < size; i++) {
            int dice = RANDOM.nextInt(6);
            long limb = dice == 0 ? 0 : dice == 1 ? 999_999_999 : dice == 2 ? RANDOM.nextInt(12)
                : RANDOM.nextInt(1_000_000_000);
            sum = sum.multiply(BASE).add(BigInteger.valueOf(limb));
        }
        return RANDOM.nextBoolean() ? sum : sum.negate();
    }

    private static void addTimes(BigInteger a, BigInteger b, long factor) throws ReflectiveOperationException {
        Object sum = big(a);
        call(sum, "addTimes", new Class<?>[] {BIG, long.class}, big(b), factor);
        due(a + " + " + b + " * " + factor, value(sum), a.add(b.multiply(BigInteger.valueOf(factor))));
    }

    private static void product(BigInteger a, BigInteger b) throws ReflectiveOperationException {
        Object target = big(some(4));
        call(target, "product", new Class<?>[] {BIG, BIG}, big(a), big(b));
        due(a + " * " + b, value(target), a.multiply(b));
    }

    private static void split(BigInteger a, BigInteger b) throws ReflectiveOperationException {
        Object rest = big(a);
        Object times = big(some(4));
        call(rest, "split", new Class<?>[] {BIG, BIG}, big(b), times);
        boolean none = b.signum() == 0;
        due(a + " over " + b, value(times), none ? BigInteger.ZERO : a.divide(b));
        due(a + " left by " + b, value(rest), none ? a : a.remainder(b));
    }

    private static void greatestDivisor(BigInteger a, BigInteger b, BigInteger c) throws ReflectiveOperationException {
        Object divisor = made("Divisor");
        Object got = call(divisor, "of", new Class<?>[] {BIG, BIG}, big(a.multiply(c)), big(b.multiply(c)));
        due("divisor of " + a + " * " + c + " and " + b + " * " + c, value(got), a.multiply(c).gcd(b.multiply(c)));
    }

    /** A number is the same as itself, but not as one that differs by its sign, a limb or its length. */
    private static void same(BigInteger a, BigInteger b) throws ReflectiveOperationException {
        BigInteger[] others = {a, b, a.negate(), a.add(BigInteger.ONE), a.add(BASE), a.add(BASE.pow(2)), a.multiply(BASE), a.divide(BASE)};
        for (BigInteger other : others) {
            Object got = call(big(a), "isSame", new Class<?>[] {BIG}, big(other));
            due(a + " is " + other, (Boolean) got ? BigInteger.ONE : BigInteger.ZERO,
                a.equals(other) ? BigInteger.ONE : BigInteger.ZERO);
        }
    }

    /** Parts of numbers longer than any row of beams has: eighteen digits each, and 0 beyond the last. */
    private static void parts(BigInteger upper, BigInteger lower) throws ReflectiveOperationException {
        Object ratio = made("Ratio");
        call(fieldOf(ratio, "upper"), "take", new Class<?>[] {BIG}, big(upper));
        call(fieldOf(ratio, "lower"), "take", new Class<?>[] {BIG}, big(lower));
        for (int part = -1; part < 16; part++) {
            long got = (Long) call(ratio, "part", new Class<?>[] {int.class}, part);
            BigInteger side = part % 2 == 0 ? upper : lower;
            BigInteger want = part < 0 ? BigInteger.valueOf(upper.signum())
                : side.abs().divide(BASE.pow(part / 2 * 2)).mod(BASE.pow(2));
            due("part " + part + " of " + upper + " / " + lower, BigInteger.valueOf(got), want);
        }
    }

    private static Object fieldOf(Object on, String name) throws ReflectiveOperationException {
        Field field = on.getClass().getDeclaredField(name);
        field.setAccessible(true);
        return field.get(on);
    }

    private static final Class<?> BIG = inside("Big");

    private static Class<?> inside(String name) {
        for (Class<?> one : InfluenceRows.class.getDeclaredClasses()) {
            if (one.getSimpleName().equals(name)) {
                return one;
            }
        }
        throw new IllegalStateException(name);
    }

    private static Object made(String name) throws ReflectiveOperationException {
        Constructor<?> constructor = inside(name).getDeclaredConstructor();
        constructor.setAccessible(true);
        return constructor.newInstance();
    }

    private static Object call(Object on, String name, Class<?>[] types, Object... arguments)
        throws ReflectiveOperationException {
        Method method = on.getClass().getDeclaredMethod(name, types);
        method.setAccessible(true);
        return method.invoke(on, arguments);
    }

    private static Field field(String name) throws ReflectiveOperationException {
        Field field = BIG.getDeclaredField(name);
        field.setAccessible(true);
        return field;
    }

    /** What stands above a number's limbs is left over from before, as it is in the program. */
    private static Object big(BigInteger value) throws ReflectiveOperationException {
        Object big = made("Big");
        int[] limb = new int[60 > value.bitLength() / 29 + 1 && RANDOM.nextBoolean() ? 60 : 16];
        BigInteger rest = value.abs();
        int size = 0;
        while (rest.signum() > 0) {
            if (size == limb.length) {
                limb = java.util.Arrays.copyOf(limb, 2 * size);
            }
            limb[size] = rest.mod(BASE).intValueExact();
            rest = rest.divide(BASE);
            size++;
        }
        for (int i = size; i < limb.length; i++) {
            limb[i] = RANDOM.nextInt(1_000_000_000);
        }
        field("limb").set(big, limb);
        field("size").setInt(big, size);
        field("sign").setInt(big, value.signum());
        return big;
    }

    private static BigInteger value(Object big) throws ReflectiveOperationException {
        int[] limb = (int[]) field("limb").get(big);
        int size = field("size").getInt(big);
        int sign = field("sign").getInt(big);
        BigInteger sum = BigInteger.ZERO;
        for (int i = size - 1; i >= 0; i--) {
            if (limb[i] < 0 || limb[i] >= BASE.intValue() || i == size - 1 && limb[i] == 0) {
                throw new IllegalStateException("limb " + i + " is " + limb[i]);
            }
            sum = sum.multiply(BASE).add(BigInteger.valueOf(limb[i]));
        }
        if (sum.signum() != Math.abs(sign)) {
            throw new IllegalStateException("sign " + sign + " of " + sum);
        }
        return sign < 0 ? sum.negate() : sum;
    }
}
