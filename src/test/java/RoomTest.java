import com.sun.management.ThreadMXBean;
import java.lang.management.ManagementFactory;
import java.util.function.Consumer;

/** A run of 512 calls of the dearest kinds stays far under the room that all calls of a run share. */
public final class RoomTest {
    private static final int CALLS = 512;
    /** 600,000 objects and 7.3 million elements would take some 16 million bytes at the least. */
    private static final long BYTES = 4_000_000L;

    public static void main(String[] args) {
        Check.promise(0, "room");
        spend("isSound", Namebearers::isSound);
        spend("print", Namebearers::print);
        spend("meanPrice", Namebearers::meanPrice);
        spend("clusterAnew", x -> x.clusterAnew(39));
        spend("sorted", x -> x.sorted(39));
        spend("slip and clusters", x -> {
            x.slip(0, true, 0, 'a');
            x.clusters();
        });
        spend("length", x -> x.length(0, 'f'));
        spend("bearers", x -> x.bearers(15));
        spend("fashion", x -> x.fashion(0, 99));
        spend("doubts", Namebearers::doubts);
        spend("wrong and missed", x -> {
            x.wrong();
            x.missed();
        });
        spend("letter", x -> x.letter(0, 'f', 0));
        spend("move", x -> x.move(0, (x.landOf(0) + 1) % 4, 0));
        Check.finish();
    }

    private static void spend(String what, Consumer<Namebearers> call) {
        call.accept(filled());
        ThreadMXBean threads = (ThreadMXBean) ManagementFactory.getThreadMXBean();
        long thread = Thread.currentThread().getId();
        long before = threads.getThreadAllocatedBytes(thread);
        Namebearers x = filled();
        for (int i = 0; i < CALLS; i++) {
            call.accept(x);
        }
        long spent = threads.getThreadAllocatedBytes(thread) - before;
        Check.isTrue(what + " took " + spent + " bytes", spent < BYTES);
    }

    private static Namebearers filled() {
        Namebearers x = new Namebearers();
        x.setMarriage(2, 'h');
        for (int i = 0; i < 8; i++) {
            x.addRule(0, (char) ('s' + i), ' ', 'z', 'z');
        }
        for (int i = 0; i < 40; i++) {
            x.birth(-1, -1, 'f', i % 15, 2);
            x.deed(i, 1);
        }
        for (int i = 0; i < 40; i += 2) {
            x.marry(i, i + 1);
        }
        for (int i = 0; i < 40; i++) {
            x.tell((i + 1) % 40, i);
            x.tell((i + 2) % 40, i);
            x.tell((i + 3) % 40, i);
            x.record(0, i % 4, i % 4);
        }
        x.setPrice(40);
        return x;
    }
}
