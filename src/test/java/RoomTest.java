import java.lang.management.ManagementFactory;
import java.util.Random;

/**
 * How much room calls take: all calls of a run live in one room (the 600,000 objects, 7.3
 * million elements), so a call makes nothing but the rows of bytes of files, once each. And: no
 * call throws, whatever its arguments are.
 */
public final class RoomTest {
    private static final com.sun.management.ThreadMXBean BEAN =
        (com.sun.management.ThreadMXBean) ManagementFactory.getThreadMXBean();
    private static final long ME = Thread.currentThread().getId();

    private RoomTest() {
    }

    public static void main(String[] args) {
        newObject();
        dearestCalls();
        anyArguments();
        Check.end("RoomTest");
    }

    private static long allocated() {
        return BEAN.getThreadAllocatedBytes(ME);
    }

    private static void newObject() {
        new SpaceHouse();
        long before = allocated();
        new SpaceHouse();
        long bytes = allocated() - before;
        System.out.println("RoomTest: a new object takes " + bytes + " bytes");
        Check.due("a new object is small", bytes < 400000 ? 1 : 0, 1);
    }

    /** 200 commands a line, each of many messages. */
    private static void dearestCalls() {
        SpaceHouse x = Check.house(1);
        String[] lines = {"mkdir a", "mkdir a/b", "mkdir a/b/c", "echo echo $1 > s",
            "bind -a a/b a", "bind -a a/b a", "bind -a a/b a", "bind -a a/b a", "bind -a a/b a"};
        for (String line : lines) {
            Check.line(x, 0, line, 0);
        }
        Check.line(x, 0, "set l -ls", 0);
        Check.line(x, 0, "set c a/b/c/../c/../c", 0);
        Check.line(x, 0, "set n 10", 0);
        StringBuilder script = new StringBuilder();
        for (int i = 0; i < 60; i++) {
            script.append("-ls a\n-cat s\n");
        }
        Wire w = new Wire(x, 0);
        w.attach(1, "ann");
        w.create(1, "t", 0777, 1);
        for (int i = 0; i < script.length() && i < 600; i += 200) {
            w.write(1, i, script.substring(i, Math.min(i + 200, Math.min(600, script.length()))));
        }
        String[] all = {"run t", "for x in 1 2 do run t", "ls a", "fork c", "cat s",
            "echo 12345678901234567890 > a/new", "stat a", "if a = b cd x"};
        for (String line : all) {
            Check.type(x, line);
            x.enter(0);
            x.wipe(0);
        }
        long most = 0;
        for (int i = 0; i < 50; i++) {
            for (String line : all) {
                Check.type(x, line);
                long before = allocated();
                x.enter(0);
                most = Math.max(most, allocated() - before);
                x.wipe(0);
                Check.type(x, "exit");
                x.enter(1);
            }
        }
        System.out.println("RoomTest: the dearest enter() makes " + most + " bytes");
        Check.due("enter makes nothing", most < 700 ? 1 : 0, 1);
        long before = allocated();
        for (int i = 0; i < 200; i++) {
            x.message(x.messages() - 1, i);
            x.process(0, i);
            x.server(i % 3, i % 7);
            x.sum();
        }
        Check.due("looking makes nothing", allocated() - before < 100 ? 1 : 0, 1);
    }

    private static void anyArguments() {
        Random random = new Random(5);
        int[] some = {Integer.MIN_VALUE, -2, -1, 0, 1, 2, 3, 7, 8, 25, 26, 32, 33, 47, 48, 100, 255,
            256, 999, Integer.MAX_VALUE};
        SpaceHouse x = new SpaceHouse();
        for (int i = 0; i < 200000; i++) {
            if (i % 512 == 0) {
                x = new SpaceHouse();
            }
            int a = some[random.nextInt(some.length)];
            int b = some[random.nextInt(some.length)];
            int c = some[random.nextInt(some.length)];
            int d = some[random.nextInt(some.length)];
            switch (random.nextInt(22)) {
                case 0: x.type(random.nextLong(), a); break;
                case 1: x.enter(a); break;
                case 2: x.login(a); break;
                case 3: x.out(a, b); break;
                case 4: x.wipe(a); break;
                case 5: x.input(a); break;
                case 6: x.console(a); break;
                case 7: x.messages(); break;
                case 8: x.message(a, b); break;
                case 9: x.sum(); break;
                case 10: x.feed(a); break;
                case 11: x.ask(a); break;
                case 12: x.answer(a); break;
                case 13: x.process(a, b); break;
                case 14: x.variable(a, b, c); break;
                case 15: x.dot(a, b); break;
                case 16: x.point(a, b, c); break;
                case 17: x.member(a, b, c, d); break;
                case 18: x.descriptor(a, b, c); break;
                case 19: x.server(a, b); break;
                case 20: x.fid(a, b, c); break;
                default: x.ask(random.nextInt(3)); break;
            }
        }
        Check.due("no call threw", 1, 1);
    }
}
