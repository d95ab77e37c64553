import java.lang.reflect.Constructor;
import java.lang.reflect.Field;
import java.lang.reflect.Method;
import java.lang.reflect.Modifier;
import java.util.Random;
import java.util.Set;
import java.util.TreeSet;

/** The public face of the class; and that no call throws, whatever its arguments, and all answer alike again. */
public final class FaceTest {
    private static final String[] FACE = {
        "long ask(int,int,int,int)", "long at(int,int)", "long way(int,int,int)", "boolean begin(int,boolean)",
        "int arc(int,int,int,int)", "int graph()", "int view(int,int,int)", "int join(int,int,boolean)",
        "int column(int,int,int)", "int flat(int,long,int,long)", "int mix(int,int,int)",
        "int run(int,int,int,int,boolean,int)", "int ways(int,int,int)", "int parts(int,int,int)", "int drop()",
        "int refused()", "int handles()", "int sort(int)", "int of(int,int,int)", "int step(int,int,int)",
        "int part(int,int)", "int members(int,int)"};
    private static final int[] ODD = {0, 1, 2, 3, 4, 5, 7, 15, 16, 17, 60, 120, -1, -2, -3, -4, 1000, 1001, -1000, -1001,
        200, 201, 65535, 65536, Integer.MAX_VALUE, Integer.MIN_VALUE};

    public static void main(String[] args) throws Exception {
        face();
        anything(300);
        Check.end();
    }

    private static void face() {
        Check.test("The public face: what it has, and nothing else");
        Class<?> c = GraphEngine.class;
        Check.due("public and final", c.getModifiers(), Modifier.PUBLIC | Modifier.FINAL);
        Set<String> found = new TreeSet<>();
        Set<String> names = new TreeSet<>();
        for (Method m : c.getDeclaredMethods()) {
            if (!Modifier.isPrivate(m.getModifiers())) found.add(text(m));
            if (!Modifier.isPrivate(m.getModifiers())) names.add(m.getName());
        }
        Check.due("the methods " + found, found.equals(new TreeSet<>(java.util.Arrays.asList(FACE))), true);
        for (Method m : c.getDeclaredMethods()) {
            boolean hidden = Modifier.isPrivate(m.getModifiers());
            Check.due(m.getName() + " is not hidden under a public name", hidden && names.contains(m.getName()), false);
        }
        for (Field f : c.getDeclaredFields()) Check.due(f + " is private", Modifier.isPrivate(f.getModifiers()), true);
        Constructor<?>[] made = c.getDeclaredConstructors();
        Check.due("constructors", made.length, 1);
        Check.due("its parameters", made[0].getParameterCount(), 0);
        Check.due("it is public", made[0].getModifiers(), Modifier.PUBLIC);
        for (Class<?> inside : c.getDeclaredClasses()) {
            Check.due(inside + " is static", Modifier.isStatic(inside.getModifiers()), true);
            Check.due(inside + " is not public", Modifier.isPublic(inside.getModifiers()), false);
        }
    }

    private static String text(Method m) {
        StringBuilder b = new StringBuilder(m.getReturnType().getName() + " " + m.getName() + "(");
        for (int i = 0; i < m.getParameterCount(); i++) {
            b.append(i == 0 ? "" : ",").append(m.getParameterTypes()[i].getName());
        }
        return b.append(")").toString();
    }

    /** Two objects get the same calls: they answer alike, and nothing is thrown. */
    private static void anything(int rounds) {
        Check.test("No call throws, and the same calls give the same answers");
        Random random = new Random(77L);
        for (int round = 0; round < rounds; round++) {
            GraphEngine x = new GraphEngine();
            GraphEngine y = new GraphEngine();
            for (int call = 0; call < 250; call++) {
                int[] n = new int[7];
                for (int i = 0; i < n.length; i++) n[i] = random.nextInt(3) == 0 ? ODD[random.nextInt(ODD.length)] : random.nextInt(7);
                if (call < 30 && random.nextInt(4) > 0) n[0] = 1;
                else n[0] = random.nextInt(23);
                try {
                    Check.due("round " + round + " call " + call, answer(x, n), answer(y, n));
                    int why = x.refused();
                    Check.due("refused() is alike", why, y.refused());
                    Check.due("refused() is one of five", why <= 0 && why >= -4, true);
                } catch (RuntimeException e) {
                    Check.due("round " + round + " call " + call + " of " + n[0] + " threw " + e, 1, 0);
                }
            }
        }
    }

    private static long answer(GraphEngine x, int[] n) {
        boolean yes = n[6] % 2 == 0;
        switch (n[0]) {
            case 0: return x.begin(n[1], yes) ? 1 : 0;
            case 1: return x.arc(n[1], n[2], n[3], n[4]);
            case 2: return x.graph();
            case 3: return x.view(n[1], n[2], n[3]);
            case 4: return x.join(n[1], n[2], yes);
            case 5: return x.column(n[1], n[2], n[3]);
            case 6: return x.flat(n[1], n[2], n[3], n[4]);
            case 7: return x.mix(n[1], n[2], n[3]);
            case 8: return x.run(n[1], n[2], n[3], n[4], yes, n[5]);
            case 9: return x.ways(n[1], n[2], n[3]);
            case 10: return x.parts(n[1], n[2], n[3]);
            case 11: return n[1] == 0 ? x.drop() : x.graph();
            case 12: return x.refused();
            case 13: return x.handles();
            case 14: return x.sort(n[1]);
            case 15: return x.of(n[1], n[2], n[3]);
            case 16: return x.at(n[1], n[2]);
            case 17: return x.way(n[1], n[2], n[3]);
            case 18: return x.step(n[1], n[2], n[3]);
            case 19: return x.part(n[1], n[2]);
            case 20: return x.members(n[1], n[2]);
            default: return x.ask(n[1], n[2] + n[5] % 6, n[3], n[4]);
        }
    }
}
