/** DESCRIPTORS (20), fork and exit (3), what process() tells (15). */
public final class ProcessTest {
    private ProcessTest() {
    }

    public static void main(String[] args) {
        opening();
        reading();
        writing();
        closing();
        sharing();
        forking();
        forkingGroups();
        exiting();
        faces();
        Check.end("ProcessTest");
    }

    private static void opening() {
        SpaceHouse x = Check.house(1);
        x.login(2);
        Check.line(x, 0, "echo abc > f", 0);
        Check.line(x, 0, "chmod 640 f", 0);
        Check.shows(x, 0, "open f 0", "0\n");
        Check.shows(x, 0, "open f 1", "1\n");
        Check.shows(x, 0, "open f 2", "2\n");
        Check.line(x, 1, "open f 0", -3);
        Check.line(x, 0, "open x 0", -1);
        Check.line(x, 0, "open / 1", -10);
        Check.line(x, 0, "close 1", 0);
        int before = x.messages();
        Check.shows(x, 0, "open / 0", "1\n");
        Check.due("kinds", Check.kinds(x, before), "110 111 112 113");
        before = x.messages();
        Check.shows(x, 0, "create 640 g 2", "3\n");
        Check.due("kinds", Check.kinds(x, before), "110 111 114 115");
        Check.due("create", Check.message(x, before + 2), "13000000720100" + "04000000" + "0100"
            + "67" + "a0010000" + "02");
        Check.line(x, 0, "create 640 g 0", -4);
        Check.line(x, 0, "create 640 / 0", -5);
        for (int d = 4; d < 8; d++) {
            Check.shows(x, 0, "open f 0", d + "\n");
        }
        before = x.messages();
        Check.line(x, 0, "open f 0", -20);
        Check.line(x, 0, "open #9 0", -20);
        Check.line(x, 0, "open f 3", -18);
        Check.line(x, 0, "create 640 new 0", -20);
        Check.due("nothing is made", x.messages(), before);
        Check.due("files", x.server(0, 0), 3);
        Check.due("open", x.process(0, 2), 8);
        Check.due("server", x.descriptor(0, 0, 0), 0);
        Check.due("fid", x.descriptor(0, 0, 1), 3);
        Check.due("offset", x.descriptor(0, 0, 2), 0);
        Check.due("openings", x.descriptor(0, 0, 3), 1);
        Check.due("what", x.descriptor(0, 0, 4), -100);
        Check.due("what", x.descriptor(0, 0, -1), -100);
        Check.due("none", x.descriptor(0, 8, 9), -1);
        Check.due("none", x.descriptor(0, -1, 9), -1);
        Check.due("not open", x.descriptor(1, 0, 9), -1);
        Check.due("no process", x.descriptor(2, 0, 9), -1);
    }

    private static void reading() {
        SpaceHouse x = Check.house(1);
        Check.line(x, 0, "echo 0123456789 > f", 0);
        Check.line(x, 0, "open f 0", 0);
        Check.shows(x, 0, "read 0 4", "0123");
        Check.shows(x, 0, "read 0 0003", "456");
        Check.due("offset", x.descriptor(0, 0, 2), 7);
        Check.shows(x, 0, "read 0 100", "789\n");
        Check.shows(x, 0, "read 0 100", "");
        Check.line(x, 0, "seek 0 9", 0);
        Check.due("offset", x.descriptor(0, 0, 2), 9);
        int before = x.messages();
        Check.shows(x, 0, "read 0 1", "9");
        Check.due("read", Check.message(x, before), "17000000740100" + "02000000"
            + "0900000000000000" + "01000000");
        Check.line(x, 0, "read 1 1", -19);
        Check.line(x, 0, "seek 1 1", -19);
        Check.line(x, 0, "write 1 a", -19);
        Check.line(x, 0, "close 1", -19);
        Check.line(x, 0, "read 1 0", -18);
        Check.line(x, 0, "write 0 a", -9);
        Check.line(x, 0, "open f 1", 0);
        Check.line(x, 0, "read 1 1", -9);
        Check.line(x, 0, "open / 0", 0);
        Check.line(x, 0, "seek 2 1", 0);
        Check.line(x, 0, "read 2 100", -13);
        Check.due("offset stays", x.descriptor(0, 2, 2), 1);
        Check.line(x, 0, "seek 2 0", 0);
        x.wipe(0);
        Check.line(x, 0, "read 2 100", 0);
        Check.due("a STAT", x.process(0, 1), 59);
        Check.due("offset", x.descriptor(0, 2, 2), 59);
    }

    private static void writing() {
        SpaceHouse x = Check.house(1);
        Check.line(x, 0, "create 666 f 2", 0);
        Check.line(x, 0, "write 0 abc", 0);
        Check.line(x, 0, "write 0 def", 0);
        Check.due("offset", x.descriptor(0, 0, 2), 6);
        Check.line(x, 0, "seek 0 2", 0);
        Check.line(x, 0, "write 0 XY", 0);
        Check.shows(x, 0, "cat f", "abXYef");
        Check.line(x, 0, "seek 0 7", 0);
        Check.line(x, 0, "write 0 a", -13);
        Check.due("offset stays", x.descriptor(0, 0, 2), 7);
        Check.line(x, 0, "size 600 f", 0);
        Check.line(x, 0, "seek 0 599", 0);
        Check.line(x, 0, "write 0 ab", -12);
        Check.line(x, 0, "write 0 a", 0);
        Check.due("offset", x.descriptor(0, 0, 2), 600);
        Check.line(x, 0, "rm f", 0);
        Check.line(x, 0, "write 0 a", -1);
        Check.line(x, 0, "read 0 1", -1);
        Check.line(x, 0, "close 0", 0);
        // one that only grows: the offset does not count, but it goes on
        Wire w = new Wire(x, 0);
        w.attach(1, "ann");
        w.create(1, "g", 1L << 30 | 0666, 0);
        Check.line(x, 0, "open g 2", 0);
        Check.line(x, 0, "seek 0 50", 0);
        Check.line(x, 0, "write 0 abc", 0);
        Check.due("offset", x.descriptor(0, 0, 2), 53);
        Check.shows(x, 0, "cat g", "abc");
    }

    private static void closing() {
        SpaceHouse x = Check.house(1);
        Check.line(x, 0, "echo a > f", 0);
        Check.line(x, 0, "open f 0", 0);
        Check.line(x, 0, "open f 0", 0);
        int before = x.messages();
        Check.line(x, 0, "close 0", 0);
        Check.due("kinds", Check.kinds(x, before), "120 121");
        Check.due("open", x.process(0, 2), 1);
        Check.line(x, 0, "fork s", 0);
        before = x.messages();
        Check.line(x, 0, "close 1", 0);
        Check.due("another has it", x.messages(), before);
        Check.due("openings", x.descriptor(1, 1, 3), 1);
        Check.line(x, 1, "close 1", 0);
        Check.due("none has it", Check.kinds(x, before), "120 121");
        Check.due("fids", x.server(0, 2), 2);
    }

    private static void sharing() {
        SpaceHouse x = Check.house(1);
        Check.line(x, 0, "echo 0123456789 > f", 0);
        Check.line(x, 0, "open f 0", 0);
        Check.line(x, 0, "open f 0", 0);
        Check.line(x, 0, "close 0", 0);
        Check.line(x, 0, "read 1 2", 0);
        Check.line(x, 0, "fork c", 0);
        Check.due("the same DESCRIPTOR", x.descriptor(1, 1, 1), x.descriptor(0, 1, 1));
        Check.due("how many", x.descriptor(0, 1, 3), 2);
        Check.due("not the other", x.descriptor(1, 0, 0), -1);
        Check.shows(x, 1, "read 1 3", "234");
        Check.shows(x, 0, "read 1 3", "567");
        Check.line(x, 1, "seek 1 1", 0);
        Check.shows(x, 0, "read 1 1", "1");
        Check.line(x, 1, "fork e", 0);
        Check.due("how many", x.descriptor(2, 1, 3), 3);
        Check.line(x, 1, "exit", 0);
        Check.due("how many", x.descriptor(2, 1, 3), 2);
        Check.shows(x, 2, "open f 0", "0\n");
        Check.due("its own", x.descriptor(2, 0, 3), 1);
        Check.due("open", x.process(0, 2), 1);
    }

    private static void forking() {
        SpaceHouse x = Check.house(2);
        Check.line(x, 0, "mkdir d", 0);
        Check.line(x, 0, "cd d", 0);
        Check.line(x, 0, "set a b", 0);
        int before = x.messages();
        Check.shows(x, 0, "fork s", "1\n");
        Check.due("kinds", Check.kinds(x, before), "110 111");
        Check.due("from its root", Check.message(x, before), "110000006e0100" + "00000000"
            + "01000000" + "0000");
        Check.due("user", x.process(1, 0), 2);
        Check.due("OUT", x.process(1, 1), 0);
        Check.due("root", x.process(1, 5), 1);
        Check.due("DOT", Check.dot(x, 1), "/d");
        Check.due("VARIABLE", x.process(1, 7), 1);
        Check.due("GROUP", x.process(1, 4), 2);
        Check.shows(x, 1, "fork e", "2\n");
        Check.due("GROUP", x.process(2, 4), 1);
        Check.line(x, 0, "exit", 0);
        Check.due("GROUP", x.process(1, 4), 1);
        Check.shows(x, 2, "fork s", "0\n");
        for (int p = 3; p < 8; p++) {
            Check.shows(x, 2, "fork s", p + "\n");
        }
        Check.due("GROUP", x.process(2, 4), 7);
        before = x.messages();
        Check.shows(x, 2, "fork s", -20, "");
        Check.due("nothing is asked", x.messages(), before);
        Check.line(x, 2, "fork x", -18);
        Check.due("login", x.login(0), -101);
        // one that is to go is still there
        Check.line(x, 2, "if a = a exit", 0);
        Check.shows(x, 1, "fork c", "2\n");
    }

    private static void forkingGroups() {
        SpaceHouse x = Check.house(1);
        Check.line(x, 0, "mkdir a", 0);
        Check.line(x, 0, "mkdir b", 0);
        Check.line(x, 0, "bind -bc #2 a", 0);
        Check.line(x, 0, "bind a b", 0);
        Check.due("points", SpaceTest.points(x, 0), "0:1=2:0:0c,0:2:1 0:2=2:2:0c,0:1:1");
        int before = x.messages();
        Check.line(x, 0, "fork c", 0);
        Check.due("root, then the MEMBERS", Check.kinds(x, before),
            "110 111 110 111 110 111 110 111 110 111");
        Check.due("points", SpaceTest.points(x, 1), "0:1=2:1:0c,0:4:1 0:2=2:3:0c,0:5:1");
        Check.due("root", x.process(1, 5), 3);
        Check.line(x, 0, "fork s", 0);
        Check.line(x, 0, "fork e", 0);
        Check.due("points", x.process(2, 3), 2);
        Check.due("points", x.process(3, 3), 0);
        Check.line(x, 2, "unmount b", 0);
        Check.due("shared", x.process(0, 3), 1);
        Check.due("a copy", x.process(1, 3), 2);
        Check.line(x, 3, "bind a a", 0);
        Check.due("its own", x.process(3, 3), 1);
        Check.due("the others", x.process(0, 3), 1);
    }

    private static void exiting() {
        SpaceHouse x = Check.house(1);
        Check.line(x, 0, "echo a > f", 0);
        Check.line(x, 0, "mkdir d", 0);
        Check.line(x, 0, "open f 0", 0);
        Check.line(x, 0, "open f 0", 0);
        Check.line(x, 0, "open d 0", 0);
        Check.line(x, 0, "close 1", 0);
        Check.line(x, 0, "bind -a #1 d", 0);
        Check.line(x, 0, "bind f f", 0);
        int before = x.messages();
        Check.due("points", SpaceTest.points(x, 0), "0:2=0:3:2,1:0:0 0:1=0:5:1");
        Check.line(x, 0, "exit", 0);
        Check.due("kinds", Check.kinds(x, before),
            "120 121 120 121 120 121 120 121 120 121 120 121");
        int[] fids = {2, 4, 3, 0, 5, 0};
        for (int i = 0; i < fids.length; i++) {
            Check.due("clunk " + i, x.message(before + 2 * i, 7), fids[i]);
        }
        Check.due("it went", x.process(0, 0), -1);
        Check.due("fids", x.server(0, 2) + x.server(1, 2) + x.server(2, 2), 0);
        Check.due("enter", x.enter(0), -100);
        Check.due("out", x.out(0, 0), -1);
        Check.due("wipe", x.wipe(0), -100);
        Check.due("login", x.login(2), 0);
        Check.due("a new GROUP", x.process(0, 3), 0);
        Check.due("OUT", x.process(0, 1), 0);
        Check.due("DOT", Check.dot(x, 0), "/");
        Check.due("no DESCRIPTORS", x.process(0, 2), 0);
        Check.line(x, 0, "fork s", 0);
        Check.line(x, 0, "bind f f", 0);
        before = x.messages();
        Check.line(x, 0, "exit", 0);
        Check.due("its GROUP stays", Check.kinds(x, before), "120 121");
        Check.due("points", x.process(1, 3), 1);
        Check.line(x, 1, "exit", 0);
        Check.due("fids", x.server(0, 2), 0);
    }

    private static void faces() {
        SpaceHouse x = Check.house(3);
        Check.line(x, 0, "echo abc", 0);
        int[] want = {3, 4, 0, 0, 1, 0, 1};
        for (int what = 0; what < want.length; what++) {
            Check.due("process what " + what, x.process(0, what), want[what]);
        }
        for (int what = 7; what <= 32; what++) {
            Check.due("VARIABLE", x.process(0, what), 0);
        }
        Check.due("what -1", x.process(0, -1), -100);
        Check.due("what 33", x.process(0, 33), -100);
        Check.due("what least", x.process(0, Integer.MIN_VALUE), -100);
        Check.due("no process", x.process(1, 33), -1);
        Check.due("no process", x.process(-1, 0), -1);
        Check.due("no process", x.process(8, 0), -1);
    }
}
