import java.lang.management.ManagementFactory;
import java.lang.reflect.Array;
import java.lang.reflect.Field;
import java.lang.reflect.Modifier;
import java.util.ArrayDeque;
import java.util.Deque;
import java.util.IdentityHashMap;
import java.util.Map;
import java.util.Random;

/** The room that objects take: a new one is small, its calls make nothing; and no call throws, whatever its arguments. */
public final class RoomTest {
    private static final Check CHECK = new Check("RoomTest");
    private static final int[] NUMBERS = {-1, 0, 1, 2, 3, 4, 5, 6, 29, 30, 59, 60, 61, 1599, 1600, 1601,
        Integer.MIN_VALUE, Integer.MIN_VALUE + 1, Integer.MAX_VALUE, Integer.MAX_VALUE - 1, 0, 1, 0, 1, 0, 1};
    private static final String TEXT = "board 4 by 4;piece k king leap 1 0 leap 1 1;piece r ride 1 0;piece p forward;"
        + "white k at 0 0;white r at 1 0;black k at 3 3;black r at 2 3;white p at 0 1;black p at 3 2;flash 3 1 4 1 5 9 2 6;";

    public static void main(String[] args) throws IllegalAccessException {
        objects();
        for (int seed = 0; seed < 200; seed++) {
            anyCalls(Check.play(TEXT), new Random(seed));
        }
        StraitGame x = Check.play(TEXT);
        com.sun.management.ThreadMXBean threads = (com.sun.management.ThreadMXBean) ManagementFactory.getThreadMXBean();
        long self = Thread.currentThread().getId();
        Random random = new Random(1);
        long before = threads.getThreadAllocatedBytes(self);
        anyCalls(x, random);
        long made = threads.getThreadAllocatedBytes(self) - before;
        CHECK.due("bytes made by 512 calls, " + made, made < 4096, true);
        CHECK.end();
    }

    private static void anyCalls(StraitGame x, Random random) {
        for (int n = 0; n < 500; n++) {
            if (n % 3 == 0) {
                int keeper = x.turn(0) == 0 ? 0 : 1;
                x.night(keeper, random.nextInt(Math.max(1, x.moves(keeper))), random.nextInt(9) > 0);
            }
            anyCall(x, random);
        }
        x.end(0);
        x.game();
    }

    private static int some(Random random) {
        return NUMBERS[random.nextInt(NUMBERS.length)];
    }

    private static void anyCall(StraitGame x, Random r) {
        switch (r.nextInt(30)) {
            case 0: x.feed(some(r), some(r), 0x626f6172, some(r), some(r)); break;
            case 1: x.end(some(r)); break;
            case 2: if (r.nextInt(20) == 0) { x.game(); } break;
            case 3: x.fault(some(r)); break;
            case 4: x.at(some(r), some(r)); break;
            case 5: x.turn(some(r)); break;
            case 6: x.moves(some(r)); break;
            case 7: x.move(some(r), some(r), some(r)); break;
            case 8: x.lost(some(r)); break;
            case 9: x.value(some(r), some(r)); break;
            case 10: x.night(some(r), some(r), r.nextBoolean()); break;
            case 11: x.blank(); break;
            case 12: x.undo(); break;
            case 13: x.redo(); break;
            case 14: x.book(some(r), some(r)); break;
            case 15: x.differ(); break;
            case 16: x.since(); break;
            case 17: x.could(some(r)); break;
            case 18: x.lawful(some(r)); break;
            case 19: x.lawfulAt(some(r), some(r)); break;
            case 20: x.code(); break;
            case 21: x.length(some(r)); break;
            case 22: x.sight(some(r), some(r), some(r), some(r), some(r)); break;
            case 23: x.untell(some(r)); break;
            case 24: x.later(some(r)); break;
            case 25: x.storms(some(r), some(r)); break;
            case 26: x.image(some(r)); break;
            case 27: x.back(some(r)); break;
            case 28: x.undo(); break;
            default: x.about(some(r)); break;
        }
    }

    /** What a new one holds, counted through all its references. */
    private static void objects() throws IllegalAccessException {
        Map<Object, Boolean> seen = new IdentityHashMap<>();
        Deque<Object> open = new ArrayDeque<>();
        open.add(new StraitGame());
        long elements = 0;
        while (!open.isEmpty()) {
            Object o = open.remove();
            if (seen.put(o, true) != null) {
                continue;
            }
            if (o.getClass().isArray()) {
                elements += Array.getLength(o);
                for (int i = 0; i < Array.getLength(o) && !o.getClass().getComponentType().isPrimitive(); i++) {
                    open.add(Array.get(o, i));
                }
                continue;
            }
            for (Field f : o.getClass().getDeclaredFields()) {
                if (!Modifier.isStatic(f.getModifiers())) {
                    elements++;
                    f.setAccessible(true);
                    if (!f.getType().isPrimitive()) {
                        open.add(f.get(o));
                    }
                }
            }
        }
        System.out.println("RoomTest: a new object has " + seen.size() + " objects and arrays, " + elements + " fields and elements");
        CHECK.due("objects and arrays", seen.size() <= 400, true);
        CHECK.due("fields and elements", elements <= 11000, true);
    }
}
