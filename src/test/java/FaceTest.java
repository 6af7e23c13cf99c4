/** Promises 1, 2, 4 .. 14: what the calls of the face answer beside the commands. */
public final class FaceTest {
    private FaceTest() {
    }

    public static void main(String[] args) {
        newObject();
        type();
        enter();
        login();
        outAndWipe();
        input();
        console();
        messages();
        tape();
        Check.end("FaceTest");
    }

    private static void newObject() {
        SpaceHouse x = new SpaceHouse();
        Check.due("messages of a new object", x.messages(), 6);
        long sum = -3750763034362895579L;
        for (int k = 0; k < 6; k++) {
            String type = k % 2 == 0 ? "64" : "65";
            String want = "13000000" + type + "ffff000100000600395032303030";
            Check.due("message " + k, Check.message(x, k), want);
            for (int i = 0; x.message(k, i) >= 0; i++) {
                sum = (sum ^ x.message(k, i)) * 1099511628211L;
            }
        }
        Check.due("sum of a new object", x.sum(), sum);
        for (int p = 0; p < 8; p++) {
            Check.due("no process", x.process(p, 0), -1);
        }
        for (int s = 0; s < 3; s++) {
            Check.due("files", x.server(s, 0), s == 2 ? 2 : 1);
            Check.due("bytes", x.server(s, 1), 0);
            Check.due("kernel's fids", x.server(s, 2), 0);
            Check.due("fids from outside", x.server(s, 3), 0);
            Check.due("kernel's MSIZE", x.server(s, 4), 256);
            Check.due("MSIZE from outside", x.server(s, 5), 300);
        }
    }

    private static void type() {
        SpaceHouse x = Check.house(1);
        Check.due("type n 0", x.type(0, 0), -100);
        Check.due("type n 9", x.type(0, 9), -100);
        Check.due("type n -1", x.type(0, -1), -100);
        Check.due("type n least", x.type(0, Integer.MIN_VALUE), -100);
        // "echo a" with bytes above n that do not count
        Check.due("type", x.type(0x7F7F7F6f686365L, 4), 4);
        Check.due("type", x.type(0xFFFFFFFFFF206120L, 2), 6);
        Check.shows(x, 0, "", "a\n");
        for (int i = 1; i <= 12; i++) {
            Check.due("type 8", x.type(-1, 8), 8 * i);
        }
        Check.due("type beyond 100", x.type(-1, 5), -101);
        Check.due("none came", x.type(-1, 4), 100);
        Check.due("full", x.type(-1, 1), -101);
        Check.due("BAD before FULL", x.type(-1, 9), -100);
        Check.due("a line of 100 bytes", x.enter(0), -18);
        Check.due("the line is empty then", x.type(0, 1), 1);
    }

    private static void enter() {
        SpaceHouse x = Check.house(1);
        Check.type(x, "echo b");
        Check.due("enter no process", x.enter(1), -100);
        Check.due("enter -1", x.enter(-1), -100);
        Check.due("enter 8", x.enter(8), -100);
        Check.due("the line stays", x.enter(0), 0);
        Check.due("out", Check.out(x, 0), "b\n");
        Check.due("an empty line", x.enter(0), 0);
        Check.line(x, 0, "   ", 0);
        Check.line(x, 0, "nonsense", -18);
        Check.line(x, 0, "Echo a", -18);
        Check.shows(x, 0, "  echo   a  b ", "a b\n");
    }

    private static void login() {
        SpaceHouse x = new SpaceHouse();
        Check.due("login -1", x.login(-1), -100);
        Check.due("login 4", x.login(4), -100);
        for (int i = 0; i < 8; i++) {
            Check.due("login", x.login(i % 4), i);
            Check.due("user", x.process(i, 0), i % 4);
            Check.due("root", x.process(i, 5), i);
            Check.due("group", x.process(i, 4), 1);
        }
        Check.due("login the ninth", x.login(0), -101);
        Check.due("login BAD before FULL", x.login(4), -100);
        Check.line(x, 3, "exit", 0);
        Check.due("the least free one", x.login(2), 3);
        Check.due("its root", x.process(3, 5), 3);
        x = Check.house(0);
        Check.due("attach", Check.message(x, 6),
            "16000000680100" + "00000000ffffffff" + "0300" + "61646d" + "0000");
        Check.due("its answer", Check.message(x, 7), "14000000690100" + "80" + "00000000"
            + "0000000000000000");
        x = Check.house(3);
        // 8 DESCRIPTORS of a process, six times: 48 fids are not all used before a process lacks
        Check.line(x, 0, "echo a > f", 0);
        for (int p = 0; p < 5; p++) {
            for (int d = 0; d < 8; d++) {
                Check.line(x, p, "open f 0", 0);
            }
            Check.due("login", x.login(0), p + 1);
        }
        Check.due("fids", x.server(0, 2), 46);
        Check.line(x, 5, "open f 0", 0);
        Check.due("fids", x.server(0, 2), 47);
        Check.due("login with the last one", x.login(0), 6);
        Check.due("login without a NEW FID", x.login(0), -12);
    }

    private static void outAndWipe() {
        SpaceHouse x = Check.house(1);
        Check.due("out no process", x.out(1, 0), -1);
        Check.due("out no byte", x.out(0, 0), -1);
        Check.line(x, 0, "echo a\u00e9", 0);
        Check.due("out", x.out(0, 0), 'a');
        Check.due("a byte above 127", x.out(0, 1), 0xe9);
        Check.due("out", x.out(0, 2), 10);
        Check.due("out behind", x.out(0, 3), -1);
        Check.due("out -1", x.out(0, -1), -1);
        Check.due("wipe", x.wipe(0), 3);
        Check.due("wipe again", x.wipe(0), 0);
        Check.due("wipe no process", x.wipe(1), -100);
        String fifty = "12345678901234567890123456789012345678901234567890";
        for (int i = 0; i < 20; i++) {
            Check.line(x, 0, "echo " + fifty, 0);
        }
        Check.due("what is beyond 1000 is lost", x.process(0, 1), 1000);
        Check.due("byte 999", x.out(0, 999), '0' + (999 - 19 * 51 + 1) % 10);
        Check.due("byte 1000", x.out(0, 1000), -1);
        Check.due("wipe", x.wipe(0), 1000);
    }

    private static void input() {
        SpaceHouse x = Check.house(1);
        Check.due("input -1", x.input(-1), -100);
        Check.due("input 256", x.input(256), -100);
        for (int i = 0; i < 200; i++) {
            Check.due("input", x.input(i), i + 1);
        }
        Check.due("input full", x.input(0), -101);
        Check.due("input BAD before FULL", x.input(256), -100);
        Check.line(x, 0, "cat #2/cons", 0);
        Check.due("all of it", x.process(0, 1), 200);
        Check.due("in its order", x.out(0, 199), 199);
        Check.due("it is empty", x.input(7), 1);
    }

    private static void console() {
        SpaceHouse x = Check.house(1);
        Check.due("console empty", x.console(0), -1);
        String ninety = "123456789012345678901234567890123456789012345678901234567890123456789012345";
        for (int i = 0; i < 14; i++) {
            Check.line(x, 0, "echo " + ninety + " > #2/cons", 0);
        }
        Check.due("console 0", x.console(0), '1');
        Check.due("console 75", x.console(75), 10);
        Check.due("console 999", x.console(999), '1' + (999 - 13 * 76) % 10);
        Check.due("only 1000 are kept", x.console(1000), -1);
        Check.due("console -1", x.console(-1), -1);
    }

    private static void messages() {
        SpaceHouse x = Check.house(1);
        Check.line(x, 0, "ls /", 0);
        // walk, open, read, clunk: each asked and answered
        Check.due("messages", x.messages(), 16);
        Check.due("kinds", Check.kinds(x, 8), "110 111 112 113 116 117 120 121");
        Check.due("walk", Check.message(x, 8), "110000006e0100" + "00000000" + "01000000" + "0000");
        Check.due("its answer", Check.message(x, 9), "090000006f0100" + "0000");
        Check.due("open", Check.message(x, 10), "0c000000700100" + "01000000" + "00");
        Check.due("its answer", Check.message(x, 11),
            "18000000710100" + "80" + "00000000" + "0000000000000000" + "00000000");
        Check.due("read", Check.message(x, 12),
            "17000000740100" + "01000000" + "0000000000000000" + "64000000");
        Check.due("its answer", Check.message(x, 13), "0b000000750100" + "00000000");
        Check.due("clunk", Check.message(x, 14), "0b000000780100" + "01000000");
        Check.due("its answer", Check.message(x, 15), "07000000790100");
        Check.line(x, 0, "cat x", -1);
        Check.due("an error", Check.message(x, 19), "150000006b0100" + "0c00"
            + "6e6f20737563682066696c65");
        long sum = -3750763034362895579L;
        for (int k = 0; k < x.messages(); k++) {
            for (int i = 0; x.message(k, i) >= 0; i++) {
                sum = (sum ^ x.message(k, i)) * 1099511628211L;
            }
        }
        Check.due("sum", x.sum(), sum);
        Check.due("message -1", x.message(-1, 0), -1);
        Check.due("message that is not yet", x.message(x.messages(), 0), -1);
        Check.due("byte -1", x.message(8, -1), -1);
        Check.due("byte behind", x.message(8, 17), -1);
        for (int i = 0; i < 5; i++) {
            Check.line(x, 0, "ls /", 0);
        }
        int n = x.messages();
        Check.due("the latest", x.message(n - 1, 4), 121);
        Check.due("40 before", x.message(n - 40, 4) > 0 ? 1 : 0, 1);
        Check.due("41 before", x.message(n - 41, 4), -1);
        Check.due("the next one", x.message(n, 4), -1);
        Check.due("one far away", x.message(n + 40, 4), -1);
        sum = x.sum();
        Check.due("what comes from outside does not count", new Wire(x, 0).attach(5, "ann"), 0);
        Check.due("messages", x.messages(), n);
        Check.due("sum", x.sum(), sum);
    }

    private static void tape() {
        SpaceHouse x = Check.house(1);
        Check.due("feed -1", x.feed(-1), -100);
        Check.due("feed 256", x.feed(256), -100);
        Check.due("ask -1", x.ask(-1), -100);
        Check.due("ask 3", x.ask(3), -100);
        Check.due("an empty tape has no answer", x.ask(0), -1);
        Check.due("answer", x.answer(0), -1);
        byte[] version = Wire.whole(100, Wire.parts().put(100, 4).text("9P2000.x"));
        for (int i = 0; i < version.length; i++) {
            Check.due("feed", x.feed(version[i] & 255), i + 1);
        }
        Check.due("ask BAD", x.ask(3), -100);
        Check.due("the tape stays", x.ask(1), 19);
        Check.due("size", x.answer(0), 19);
        Check.due("type", x.answer(4), 101);
        Check.due("tag", x.answer(5), 7);
        Check.due("behind", x.answer(19), -1);
        Check.due("before", x.answer(-1), -1);
        Check.due("MSIZE", x.server(1, 5), 100);
        Check.due("the tape is empty", x.feed(5), 1);
        Check.due("no answer", x.ask(1), -1);
        Check.due("nor the one before", x.answer(0), -1);
        for (int i = 0; i < 400; i++) {
            x.feed(i == 0 ? 0x90 : i == 1 ? 1 : 0);
        }
        Check.due("full", x.feed(0), -101);
        Check.due("BAD before FULL", x.feed(256), -100);
        Check.due("more than MSIZE is 14", x.ask(0), 9 + 11);
        Check.due("type", x.answer(4), 107);
    }
}
