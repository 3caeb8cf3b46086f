import java.lang.management.ManagementFactory;
import java.lang.reflect.Array;
import java.lang.reflect.Field;
import java.lang.reflect.Modifier;
import java.util.ArrayDeque;
import java.util.Deque;
import java.util.IdentityHashMap;
import java.util.Map;

/** A new object is small, and no call makes anything. */
public final class RoomTest {
    private static int objects = 0;
    private static int elements = 0;

    public static void main(String[] args) throws IllegalAccessException {
        walk(new WharfPapers());
        System.out.println("a new object: " + objects + " objects and arrays, " + elements + " fields and elements");
        Check.holds("few objects", objects <= 200);
        Check.holds("few elements", elements <= 8000);
        allCalls();
        long before = allocated();
        allocated();
        long own = allocated() - before;
        long start = allocated();
        WharfPapers x = new WharfPapers();
        long made = allocated() - start;
        start = allocated();
        everyCall(x);
        long called = allocated() - start;
        Check.holds("calls make nothing: " + called, called <= own + 64);
        Check.holds("an object is made of something: " + made, made > called);
        Check.end();
    }

    private static long allocated() {
        return ((com.sun.management.ThreadMXBean) ManagementFactory.getThreadMXBean()).getThreadAllocatedBytes(Thread.currentThread().getId());
    }

    private static void allCalls() {
        for (int k = 0; k < 200; k++) {
            everyCall(new WharfPapers());
            allocated();
        }
    }

    private static int everyCall(WharfPapers x) {
        int sum = 0;
        for (int l = 0; l < 12; l++) {
            sum += x.lot(l % 4, 10 + l, 100, l % 8, l % 6);
            sum += x.line(0, 0, l, l % 8, 0, 8) + x.line(0, 0, l, l % 8, 0, 8);
            sum += x.line(1, 0, 2 * l, 7, l % 8, 1) + x.line(2, 0, 2 * l, 0, 0, 3);
        }
        sum += x.go(8) + x.room(0, 5) + x.move(0, 5) + x.told(3, 8) + x.told(3, 7) + x.book(3, 3);
        for (int what = 0; what < 12; what++) {
            sum += x.count(what);
        }
        sum += x.feed(8, 0x6C65742072656E74L) + x.feed(3, 0x20373BL) + x.term(3) + x.fault() + x.force(0, 5);
        sum += x.paper(0, 5, 5, 1) + x.goods(0, 5, 5, 4) + x.share(0, 5, 5, 0) + x.doubt(0, 5, 5, 0) + x.stock(1, 1, 0);
        sum += x.news(5, 0, 8) + x.rent(0, 9) + x.weight(0, 9) + x.weigh(0, 5, 100) + x.loss(0, 1) + x.unpaid(0, 0, 5);
        sum += x.money(0, 500, 9, 3) + x.sale(0, 1, 0, 5) + x.sale(2, 3, 0, 5) + x.net(0, 0) + x.handings(0);
        sum += x.due(0, 1, 5) + x.coin(1, 5) + x.fails(0, 2) + x.fails(-1, 4) + x.part(0, 1, true);
        return sum + x.plan(255, -1) + x.plan(255, 3);
    }

    private static void walk(Object root) throws IllegalAccessException {
        Map<Object, Boolean> seen = new IdentityHashMap<>();
        Deque<Object> open = new ArrayDeque<>();
        open.add(root);
        while (!open.isEmpty()) {
            Object one = open.poll();
            if (seen.put(one, true) != null) {
                continue;
            }
            objects++;
            if (one.getClass().isArray()) {
                elements += Array.getLength(one);
                for (int k = 0; k < Array.getLength(one) && !one.getClass().getComponentType().isPrimitive(); k++) {
                    open.add(Array.get(one, k));
                }
                continue;
            }
            for (Field field : one.getClass().getDeclaredFields()) {
                if (!Modifier.isStatic(field.getModifiers())) {
                    elements++;
                    field.setAccessible(true);
                    if (!field.getType().isPrimitive() && field.get(one) != null) {
                        open.add(field.get(one));
                    }
                }
            }
        }
    }
}
