import java.lang.management.ManagementFactory;

/** Calls make no objects: a run's room is what its constructors take. */
public final class RoomTest {
    /** The machine itself may put something aside now and then, but far less than one array a call. */
    private static final long SPARE = 16_384;

    public static void main(String[] args) {
        com.sun.management.ThreadMXBean threads = (com.sun.management.ThreadMXBean) ManagementFactory.getThreadMXBean();
        BridgeAwake[] objects = new BridgeAwake[6];
        // The first one loads classes, which is not its own room.
        objects[0] = new BridgeAwake();
        long ahead = threads.getCurrentThreadAllocatedBytes();
        for (int k = 0; k < objects.length; k++) {
            objects[k] = new BridgeAwake();
        }
        long each = (threads.getCurrentThreadAllocatedBytes() - ahead) / objects.length;
        long most = 0;
        for (int k = 0; k < objects.length; k++) {
            long before = threads.getCurrentThreadAllocatedBytes();
            useAll(objects[k]);
            most = k < 2 ? 0 : Math.max(most, threads.getCurrentThreadAllocatedBytes() - before);
        }
        boolean small = each < 8_000 && most < SPARE;
        System.out.println((small ? "small enough: " : "too much: ") + each + " bytes an object, " + most
                + " bytes for its calls");
        if (!small) {
            System.exit(1);
        }
    }

    private static void useAll(BridgeAwake x) {
        String signs = "h309t91b82l73c64p55w46q01q23q45";
        x.text(0, signs.length());
        for (int i = 0; i < signs.length(); i++) {
            x.put(0, i, signs.charAt(i));
        }
        x.fault(0);
        x.bridge(0);
        x.row(1, 3);
        x.row(2, 0);
        for (int k = 0; k < 20; k++) {
            x.lots(3, 7 + k);
            x.keep(k % 3);
            x.best(3, 0);
            x.through(0);
            x.when(0, 60);
            x.bear(1);
            x.sagged(1);
            x.sure(1);
            x.lasts(0, 2);
            x.kinds(0, 2);
            x.test(0, 2);
            x.pairs(3);
            x.duel(3);
            x.odds(0, 1, 20, 5);
            x.mid(0, 1, 5);
            x.mark(4, 4);
            x.undo(k % 7);
            x.on(k % 3);
            x.copy(0, 0, 0, 1, 2);
            x.digest();
        }
    }
}
