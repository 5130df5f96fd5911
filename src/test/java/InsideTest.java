import java.lang.reflect.Field;
import java.lang.reflect.Method;
import java.util.List;

/**
 * What the document promises and no call can show while the program is right: how bytes are coded into shards,
 * and that agrees tells what is wrong. It looks at private fields, so it goes along with them when they change.
 * How the state is held is free, so a program that holds it otherwise is not wrong: that is told, and no more.
 */
public final class InsideTest {
    private final Check check = new Check("InsideTest");

    public static void main(String[] args) {
        InsideTest test = new InsideTest();
        try {
            test.field();
            test.shards();
            test.agreesTellsWrongBytes();
            test.agreesTellsWrongCounts();
        } catch (ReflectiveOperationException e) {
            System.out.println("InsideTest: LOOKED AT NOTHING, the state is held otherwise, mend this test: " + e);
            return;
        }
        test.check.end();
    }

    private static Object get(Object from, String name) throws ReflectiveOperationException {
        Field field = from.getClass().getDeclaredField(name);
        field.setAccessible(true);
        return field.get(from);
    }

    private static Object part(BlobHarbor x, int number) throws ReflectiveOperationException {
        return ((List<?>) get(get(get(x, "firstRegion"), "store"), "parts")).get(number);
    }

    private static BlobHarbor harbour(int... bytes) {
        BlobHarbor x = new BlobHarbor();
        for (int b : bytes) {
            x.draft(b, 0, 1);
        }
        x.put(0, 1, -1);
        return x;
    }

    /** By repeated multiplying with x: times(a, b) is the sum of a x^i over the bits i of b. */
    private static int times(int a, int b) {
        int sum = 0;
        int now = a;
        for (int i = 0; i < 4; i++) {
            sum ^= (b >> i & 1) * now;
            now = (now << 1 & 15) ^ (now >= 8 ? 3 : 0);
        }
        return sum;
    }

    private void field() throws ReflectiveOperationException {
        Method times = Class.forName("BlobHarbor$Code").getDeclaredMethod("times", int.class, int.class);
        times.setAccessible(true);
        for (int a = 0; a < 16; a++) {
            for (int b = 0; b < 16; b++) {
                check.is(a + " times " + b, (Integer) times.invoke(null, a, b), times(a, b));
            }
        }
        check.is("x to the power of 4 is x and 1", times(8, 2), 3);
    }

    private void shards() throws ReflectiveOperationException {
        int[][] parts = {{1, 1, 1, 1, 1, 1}, {15, 1, 8, 13, 7, 8}, {9}, {3, 7, 11}, {2, 6, 15, 2, 11}};
        for (int[] bytes : parts) {
            int[] full = java.util.Arrays.copyOf(bytes, 6);
            BlobHarbor x = harbour(bytes);
            check.is("it is one part", x.about(0, 1, 1, 1), 1);
            byte[] got = (byte[]) get(part(x, 0), "shardBytes");
            for (int at = 0; at < 2; at++) {
                int a = full[at];
                int b = full[2 + at];
                int c = full[4 + at];
                int[] due = {a, b, c, a ^ b ^ c, a ^ times(2, b) ^ times(4, c)};
                for (int shard = 0; shard < 5; shard++) {
                    check.is("shard " + shard, got[2 * shard + at], due[shard]);
                }
            }
        }
    }

    private void agreesTellsWrongBytes() throws ReflectiveOperationException {
        for (int place = 0; place < 10; place++) {
            BlobHarbor x = harbour(1, 2, 1, 1, 1, 1, 1, 1);
            check.is("agrees", x.agrees(0), true);
            byte[] shards = (byte[]) get(part(x, 1), "shardBytes");
            shards[place] ^= 6;
            boolean isUsed = place < 6;
            check.is("agrees with a wrong byte " + place, x.agrees(0), !isUsed);
            if (!isUsed) {
                x.rot(0, 1, 0);
                x.rot(0, 1, 1);
                check.is("agrees with a wrong byte " + place + " that is used", x.agrees(0), false);
                x.rot(0, 1, 2);
                check.is("agrees when it cannot be read", x.agrees(0), true);
            }
        }
    }

    private void agreesTellsWrongCounts() throws ReflectiveOperationException {
        for (int number = 0; number < 2; number++) {
            BlobHarbor x = harbour(1, 2, 1, 1, 1, 1, 1, 1);
            Object part = part(x, number);
            Field count = part.getClass().getDeclaredField("count");
            count.setAccessible(true);
            count.setInt(part, 2);
            check.is("agrees with a wrong count", x.agrees(0), false);
            check.is("agrees, the other region", x.agrees(1), true);
            count.setInt(part, 1);
            check.is("agrees with the right count", x.agrees(0), true);
        }
    }
}
