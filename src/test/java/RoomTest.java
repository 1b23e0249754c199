import com.sun.management.ThreadMXBean;
import java.lang.management.ManagementFactory;
import java.nio.charset.StandardCharsets;

/** All calls of one run live in one room: what an object makes in a full life of its dearest calls is small. */
public final class RoomTest {
    private static final ThreadMXBean THREADS = (ThreadMXBean) ManagementFactory.getThreadMXBean();
    private static final String HOUSE = "sl9;pm9;pa9m9;pb9m9;pc9m9;c;ct1;ct2;ct3;ct4;ct5;t;t;td3;td4;td5;td6";
    private static int wrong = 0;

    private static long made() {
        return THREADS.getThreadAllocatedBytes(Thread.currentThread().getId());
    }

    private static int[] numbers(String text) {
        byte[] bytes = text.getBytes(StandardCharsets.ISO_8859_1);
        int[] numbers = new int[60];
        for (int i = 0; i < bytes.length; i++) {
            numbers[i / 4] |= (bytes[i] & 255) << 24 - 8 * (i % 4);
        }
        return numbers;
    }

    private static void feed(ArmchairHouse x, int[] n) {
        for (int i = 0; i < 60; i += 5) {
            x.feed(n[i], n[i + 1], n[i + 2], n[i + 3], n[i + 4]);
        }
    }

    private static int call(ArmchairHouse x, int i) {
        switch (i % 12) {
            case 0:
                return x.tickets(i & 3, i % 9, 1);
            case 1:
                return x.most(i & 3, 1);
            case 2:
                return x.rests(0, 1, i & 3, -1);
            case 3:
                return x.following(i % 6, 3);
            case 4:
                return x.borne(4, 0);
            case 5:
                return x.hardens(i % 6, i & 3);
            case 6:
                return x.halves(i & 3, 20, -1);
            case 7:
                return x.years(2, i);
            case 8:
                return x.perform(0);
            case 9:
                return x.image() + x.back();
            case 10:
                return x.meant(i & 3, 3) + x.odds(i % 6, i & 3, 5);
            default:
                return x.fault(i % 3) + x.undo();
        }
    }

    private static void within(String what, long bytes, long most) {
        System.out.println(what + " made " + bytes + " bytes");
        if (bytes > most) {
            wrong++;
            System.out.println(what + " may make " + most);
        }
    }

    public static void main(String[] args) {
        int[] house = numbers(HOUSE);
        StringBuilder long1 = new StringBuilder("y:e");
        while (long1.length() < 230) {
            long1.append("+[f*h-d]");
        }
        int[] law = numbers(long1.toString());
        int[] season = numbers("e0;x01;i2;e1;e2;e3;i0;i1;e0;e1;e2;e3;e0;e1;e2;e3");
        int sum = 0;
        for (int round = 0; round < 3; round++) {
            long before = made();
            ArmchairHouse x = new ArmchairHouse();
            long after = made();
            feed(x, house);
            sum += x.text(0);
            feed(x, law);
            sum += x.text(1);
            feed(x, season);
            sum += x.text(2);
            x.law(0);
            x.howled(0, 0, 0, 1, true);
            long told = made();
            for (int i = 0; i < 450; i++) {
                sum += call(x, i);
            }
            long end = made();
            if (round == 2) {
                within("a new object", after - before, 20000);
                within("a house, a law and a season", told - after, 4000);
                within("450 calls", end - told, 1000);
            }
        }
        System.out.println(sum != Integer.MIN_VALUE && wrong == 0 ? "the room is kept" : "the room is too small");
        if (wrong != 0) {
            System.exit(1);
        }
    }
}
