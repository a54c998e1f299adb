import java.lang.reflect.Method;
import java.lang.reflect.Modifier;
import java.util.ArrayList;
import java.util.Comparator;
import java.util.List;
import java.util.Random;

/** No call throws, for any arguments in any state: chance calls with numbers from the edges of int and of each range. */
public final class NoThrowTest {
    private static final int[] NUMBERS = {Integer.MIN_VALUE, Integer.MIN_VALUE + 1, -1000000, -2, -1, 0, 1, 2, 3, 4, 5,
        6, 7, 8, 9, 10, 19, 20, 21, 29, 30, 31, 99, 100, 1000, 1599, 1600, 1601, 100000, Integer.MAX_VALUE - 1,
        Integer.MAX_VALUE};
    private static final String[] TOWNS = {"", "corner a wind 1;", "guild a cloth 1 true 1 strong 1;", ActsTest.TOWN,
        ActsTest.TOWN + "pull (0-9999*9999*9999*9999)/(0-1)%cloth;hold 0-wind/day;"
            + "guild v cloth 20 true 100 strong 99 reef 20;guild w cloth 1 true 0 strong 0;"};

    public static void main(String[] args) {
        List<Method> face = new ArrayList<>();
        for (Method m : GuildBanner.class.getDeclaredMethods()) {
            if (Modifier.isPublic(m.getModifiers())) {
                face.add(m);
            }
        }
        face.sort(Comparator.comparing(Method::getName));
        for (int run = 0; run < 200; run++) {
            Random chance = new Random(run);
            GuildBanner x = Due.told(TOWNS[run % TOWNS.length]);
            for (int i = 0; i < 500; i++) {
                call(x, face.get(chance.nextInt(face.size())), chance);
            }
        }
        Due.finish("NoThrowTest");
    }

    private static void call(GuildBanner x, Method m, Random chance) {
        Object[] arguments = new Object[m.getParameterCount()];
        for (int i = 0; i < arguments.length; i++) {
            boolean near = chance.nextInt(3) > 0;
            int number = near ? chance.nextInt(7) - 1 : NUMBERS[chance.nextInt(NUMBERS.length)];
            arguments[i] = m.getParameterTypes()[i] == boolean.class ? (Object) chance.nextBoolean() : (Object) number;
        }
        try {
            m.invoke(x, arguments);
        } catch (ReflectiveOperationException thrown) {
            Due.is(m.getName() + List.of(arguments) + " threw " + thrown.getCause(), 1, 0);
        }
    }
}
