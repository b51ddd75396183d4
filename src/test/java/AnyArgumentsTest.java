import java.lang.reflect.Method;
import java.lang.reflect.Modifier;
import java.util.ArrayList;
import java.util.Comparator;
import java.util.List;
import java.util.Random;

/** No call throws or fails to end, whatever its arguments are and whatever came ahead of it. */
public final class AnyArgumentsTest {
    private static final int[] EDGES = {Integer.MIN_VALUE, -601, -2, -1, 0, 1, 2, 3, 4, 5, 6, 7, 8, 11, 12, 13, 15, 16,
        17, 20, 23, 24, 25, 59, 60, 61, 119, 120, 121, 199, 200, 201, 580, 599, 600, 601, Integer.MAX_VALUE};

    public static void main(String[] args) throws Exception {
        List<Method> face = new ArrayList<>();
        for (Method m : AskBack.class.getDeclaredMethods()) {
            if (Modifier.isPublic(m.getModifiers())) {
                face.add(m);
            }
        }
        face.sort(Comparator.comparing(Method::getName));
        Check check = new Check();
        for (int seed = 0; seed < 200; seed++) {
            Random chance = new Random(seed);
            AskBack x = new AskBack();
            if (seed % 2 == 0) {
                furnish(x);
            }
            for (int i = 0; i < 512; i++) {
                one(check, x, face.get(chance.nextInt(face.size())), chance);
            }
        }
        check.end();
    }

    private static void furnish(AskBack x) {
        Check.script(x, 0, "turn a b; key a rank 2; keep * say 1 c; when a * say 1 or go b or d; key b rank 1; "
                + "when * say 1 1 1; none go b or a b;");
        Check.script(x, 1, "key c rank 1; when * c * say 2 a 1; none c or a;");
        for (int i = 0; i < 12; i++) {
            Check.line(x, "a b c d c b a".substring(0, 1 + i));
        }
        for (int tray = 0; tray < 4; tray++) {
            x.tray(tray, tray, 20);
        }
        x.broken(1, 2);
    }

    private static void one(Check check, AskBack x, Method m, Random chance) throws Exception {
        Class<?>[] types = m.getParameterTypes();
        Object[] with = new Object[types.length];
        for (int i = 0; i < types.length; i++) {
            int edge = EDGES[chance.nextInt(EDGES.length)];
            int small = chance.nextInt(4);
            int number = chance.nextInt(3) == 0 ? edge : small;
            if (types[i] == boolean.class) {
                with[i] = chance.nextBoolean();
            } else if (types[i] == long.class) {
                with[i] = chance.nextInt(3) == 0 ? chance.nextLong() : (long) number;
            } else {
                with[i] = m.getName().equals("feed") ? 0x61206220 : number;
            }
        }
        Object got = m.invoke(x, with);
        int status = x.status();
        boolean known = status == 0 || status >= 1 && status <= 4 || status == 6 || status == 8 || status == 9;
        check.due("a status of " + m.getName(), known, true);
        if (status != 0 && !List.of("status", "top", "bottom", "feed", "fault").contains(m.getName())) {
            boolean none = got.equals(-1) || got.equals(-1L) || got.equals(false);
            check.due(m.getName() + " with a status gives none", none, true);
        }
        check.due("the bottom is above 0", x.bottom() > 0, true);
    }
}
