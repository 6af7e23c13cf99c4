/** Commands on files and paths (promise 3), DOT (17), FIDS of the kernel (22). */
public final class FilesTest {
    private FilesTest() {
    }

    public static void main(String[] args) {
        words();
        paths();
        limitsOfPaths();
        cd();
        cat();
        ls();
        echo();
        mkdirAndRm();
        changes();
        stat();
        fids();
        lackOfFids();
        Check.end("FilesTest");
    }

    /** Wrong numbers of words and wrong words are 18, and nothing is asked. */
    private static void words() {
        SpaceHouse x = Check.house(1);
        int before = x.messages();
        String[] lines = {"cd", "cd a b", "cat", "cat a b", "ls", "ls a b", "mkdir", "mkdir a b",
            "create 644 f", "create 644 f 0 0", "create 8 f 0", "create 0644 f 0", "create a f 0",
            "create 644 f 3", "create 644 f 7", "create 644 f 8", "create 644 f 00", "rm", "rm a b",
            "mv a", "mv a b c", "size 1", "size a f", "size 12345 f", "size 1 f f", "size -1 f",
            "chmod 1", "chmod 9 f", "chmod 1777 f", "chmod 1 f f", "stat", "stat a b",
            "open f", "open f 3", "open f x", "open f 0 0", "open f -1", "read 0", "read 8 1",
            "read 0 0", "read 0 101", "read 0 x", "read 0 1 1", "read x 1", "read 00 1",
            "write 0", "write 8 a", "write 0 a b", "seek 0", "seek 0 x", "seek 0 12345", "seek 9 0",
            "close", "close 8", "close a", "close 0 0", "bind a", "bind a b c",
            "bind -d a b", "bind - a b", "bind -a- a b", "bind ab a b", "bind -a a b c",
            "mount 0", "mount 3 a", "mount x a", "mount 00 a", "mount -d 0 a", "mount -a 0",
            "mount -a 0 a b", "unmount", "unmount a b c", "fork", "fork x", "fork sc", "fork s s",
            "exit 0", "set", "set A", "set ab", "set 1", "set a b c", "if", "if a", "if a =",
            "if a = a", "if a = b", "if a == a echo", "if a b c d", "if a != b", "for", "for x",
            "for x in", "for x in do", "for x in a b", "for X in a do echo", "for xy in a do echo",
            "for x on a do echo", "for do in a do echo", "for { in do echo", "for ` in do echo", "set {", "set ` a", "run", "run a 1 2 3 4 5 6 7 8 9 0",
            "cdx", "c", "#", "-echo a", "if a = a", "if a = a cd", "if a = a nonsense"};
        for (String line : lines) {
            Check.line(x, 0, line, -18);
        }
        Check.due("nothing is asked", x.messages(), before);
        Check.line(x, 0, "bind -a /", -1);
        Check.due("of two words none is F", x.messages() > before ? 1 : 0, 1);
        Check.due("out", x.process(0, 1), 0);
    }

    private static void paths() {
        SpaceHouse x = Check.house(1);
        Check.line(x, 0, "mkdir d", 0);
        Check.line(x, 0, "mkdir /d/e", 0);
        Check.line(x, 0, "echo f > d/e/f", 0);
        Check.line(x, 0, "mkdir #1/q", 0);
        Check.line(x, 0, "echo g > #1/q/g", 0);
        Check.shows(x, 0, "cat /d/e/f", "f\n");
        Check.shows(x, 0, "cat d//e///f", "f\n");
        Check.shows(x, 0, "cat ./d/./e/../e/f/.", "f\n");
        Check.shows(x, 0, "cat ../../d/e/f", "f\n");
        Check.shows(x, 0, "cat nothing/../d/e/f", "f\n");
        Check.shows(x, 0, "cat #0/d/e/f", "f\n");
        Check.shows(x, 0, "cat #1//q/g/", "g\n");
        Check.shows(x, 0, "cat #1/../q/g", "g\n");
        Check.line(x, 0, "cat #3", -5);
        Check.line(x, 0, "cat #", -5);
        Check.line(x, 0, "cat #1q", -5);
        Check.line(x, 0, "cat #11/q", -5);
        Check.line(x, 0, "cat #x/..", -5);
        Check.line(x, 0, "cat d/#1/q/g", -1);
        Check.line(x, 0, "cat d/e/f/g", -2);
        Check.line(x, 0, "cat x/y/z", -1);
        int before = x.messages();
        Check.line(x, 0, "stat d/e/f", 0);
        // from / to 1, d: 2, 1 goes; e: 1, 2 goes; f: 2, 1 goes; stat, clunk
        Check.due("kinds", Check.kinds(x, before),
            "110 111 110 111 120 121 110 111 120 121 110 111 120 121 124 125 120 121");
        Check.due("NEW FID", Check.message(x, before), "110000006e0100" + "00000000" + "01000000"
            + "0000");
        Check.due("NEW FID", Check.message(x, before + 2), "140000006e0100" + "01000000"
            + "02000000" + "0100" + "0100" + "64");
        Check.due("clunk", Check.message(x, before + 4), "0b000000780100" + "01000000");
        Check.due("NEW FID", Check.message(x, before + 6), "140000006e0100" + "02000000"
            + "01000000" + "0100" + "0100" + "65");
        before = x.messages();
        Check.line(x, 0, "cat x", -1);
        Check.due("an error", Check.kinds(x, before), "110 111 110 107 120 121");
        before = x.messages();
        Check.line(x, 0, "cat #1/x/y", -1);
        Check.due("an attach", Check.kinds(x, before), "104 105 110 107 120 121");
    }

    private static void limitsOfPaths() {
        SpaceHouse x = Check.house(1);
        Check.line(x, 0, "cat 1/2/3/4/5/6/7/8/9/0", -1);
        Check.line(x, 0, "cat 1/2/3/4/5/6/7/8/9/0/1", -5);
        Check.line(x, 0, "cat 1/2/3/4/5/6/7/8/9/0/1/..", -1);
        Check.line(x, 0, "cat 1/2/3/4/5/6/7/8/9/0/./.", -1);
        String fifty = "12345678901234567890123456789012345678901234567890";
        Check.line(x, 0, "cat " + fifty + "123456789", -1);
        Check.line(x, 0, "cat " + fifty + "1234567890", -5);
        Check.line(x, 0, "cat /" + fifty + "/23456789", -1);
        Check.line(x, 0, "cat /" + fifty + "/234567890", -5);
        Check.line(x, 0, "cat #1/" + fifty + "1234567", -1);
        Check.line(x, 0, "cat #1/" + fifty + "12345678", -5);
        Check.line(x, 0, "cat x/../" + fifty + "123456789", -1);
        Check.line(x, 0, "mkdir /12345678901", 0);
        Check.line(x, 0, "mkdir /12345678901/abcdefghijkl", 0);
        Check.line(x, 0, "cd 12345678901/abcdefghijkl", 0);
        Check.line(x, 0, "cat 12345678901234567890123456789012345", -5);
        Check.line(x, 0, "cat 1234567890123456789012345678901234", -1);
        Check.line(x, 0, "mkdir abcdefghijklm", -5);
        Check.line(x, 0, "mkdir /", -5);
        Check.line(x, 0, "mkdir #1", -5);
        Check.line(x, 0, "mkdir ../..", -5);
        Check.line(x, 0, "echo a > /", -10);
    }

    private static void cd() {
        SpaceHouse x = Check.house(1);
        Check.due("DOT", Check.dot(x, 0), "/");
        Check.line(x, 0, "mkdir d", 0);
        Check.line(x, 0, "mkdir d/e", 0);
        Check.line(x, 0, "echo f > d/f", 0);
        Check.line(x, 0, "cd ./d/../d//e/", 0);
        Check.due("DOT", Check.dot(x, 0), "/d/e");
        Check.due("bytes of DOT", x.process(0, 6), 4);
        Check.line(x, 0, "cd ..", 0);
        Check.due("DOT", Check.dot(x, 0), "/d");
        Check.line(x, 0, "cd f", -2);
        Check.due("DOT stays", Check.dot(x, 0), "/d");
        Check.line(x, 0, "cd x", -1);
        Check.line(x, 0, "cd #2/0", 0);
        Check.due("DOT", Check.dot(x, 0), "#2/0");
        Check.shows(x, 0, "ls .", "status\nctl\n");
        Check.line(x, 0, "cd ../..", 0);
        Check.due("DOT", Check.dot(x, 0), "#2");
        Check.line(x, 0, "cd cons", -2);
        Check.line(x, 0, "cd #1/.", 0);
        Check.due("DOT", Check.dot(x, 0), "#1");
        Check.due("byte 2", x.dot(0, 2), -1);
        Check.due("byte -1", x.dot(0, -1), -1);
        Check.due("no process", x.dot(1, 0), -1);
        Check.line(x, 0, "cd /", 0);
        Check.due("DOT", Check.dot(x, 0), "/");
        Check.due("fids", x.server(0, 2) + x.server(1, 2) + x.server(2, 2), 1);
    }

    private static void cat() {
        SpaceHouse x = Check.house(1);
        x.login(2);
        Check.line(x, 0, "create 600 f 1", 0);
        String text = "1234567890123456789012345678901234567890123456789012345678901234567890";
        StringBuilder all = new StringBuilder();
        for (int i = 0; i < 5; i++) {
            Check.line(x, 0, "write 0 " + text, 0);
            all.append(text);
        }
        int before = x.messages();
        Check.shows(x, 0, "cat f", all.toString());
        Check.due("reads of 100 till one has none", Check.kinds(x, before), "110 111 110 111 120 121"
            + " 112 113 116 117 116 117 116 117 116 117 116 117 120 121");
        Check.due("the third read", Check.message(x, before + 12), "17000000740100" + "04000000"
            + "c800000000000000" + "64000000");
        Check.line(x, 0, "cat /", -10);
        before = x.messages();
        Check.line(x, 1, "cat f", -3);
        Check.due("an error", Check.kinds(x, before), "110 111 110 111 120 121 112 107 120 121");
        Check.line(x, 0, "cat f/g", -2);
        Check.due("fids", x.server(0, 2), 3);
    }

    private static void ls() {
        SpaceHouse x = Check.house(1);
        x.login(2);
        Check.shows(x, 0, "ls /", "");
        Check.line(x, 0, "echo > f", 0);
        Check.line(x, 0, "mkdir d", 0);
        Check.line(x, 0, "echo > abcdefghijkl", 0);
        Check.shows(x, 0, "ls .", "f\nd/\nabcdefghijkl\n");
        Check.line(x, 0, "ls f", -2);
        Check.line(x, 0, "ls x", -1);
        Check.line(x, 0, "chmod 311 d", 0);
        Check.line(x, 0, "ls d", -3);
        Check.line(x, 1, "ls d", -3);
        Check.line(x, 0, "echo a > d/f", 0);
        Check.line(x, 1, "cat d/f", -3);
        Check.shows(x, 0, "stat d/f", "f -200 2 ann 1\n");
        Check.line(x, 0, "chmod 600 d", 0);
        Check.shows(x, 0, "ls d", "f\n");
        Check.line(x, 0, "cat d/f", -3);
        Check.due("fids", x.server(0, 2), 2);
    }

    private static void echo() {
        SpaceHouse x = Check.house(1);
        x.login(2);
        Check.shows(x, 0, "echo", "\n");
        Check.shows(x, 0, "echo >", ">\n");
        Check.shows(x, 0, "echo a >", "a >\n");
        Check.shows(x, 0, "echo a > b c", "a > b c\n");
        Check.shows(x, 0, "echo a >>> b", "a >>> b\n");
        Check.shows(x, 0, "echo a  b >f", "a b >f\n");
        int before = x.messages();
        Check.shows(x, 0, "echo one  two > f", "");
        Check.due("created", Check.kinds(x, before), "110 111 110 107 120 121"
            + " 110 111 114 115 118 119 120 121");
        Check.due("create", Check.message(x, before + 8), "13000000720100" + "02000000" + "0100"
            + "66" + "b6010000" + "01");
        Check.shows(x, 0, "cat f", "one two\n");
        before = x.messages();
        Check.line(x, 0, "echo 3 > f", 0);
        Check.due("opened", Check.kinds(x, before), "110 111 110 111 120 121"
            + " 112 113 118 119 120 121");
        Check.due("with 17", Check.message(x, before + 6), "0c000000700100" + "03000000" + "11");
        Check.shows(x, 0, "cat f", "3\n");
        before = x.messages();
        Check.line(x, 0, "echo four >> f", 0);
        Check.due("opened", Check.kinds(x, before), "110 111 110 111 120 121"
            + " 112 113 124 125 118 119 120 121");
        Check.due("with 1", Check.message(x, before + 6), "0c000000700100" + "03000000" + "01");
        Check.due("from its LENGTH on", Check.message(x, before + 10), "1c000000760100" + "03000000"
            + "0200000000000000" + "05000000" + "666f75720a");
        Check.shows(x, 0, "cat f", "3\nfour\n");
        Check.line(x, 0, "echo new >> g", 0);
        Check.shows(x, 0, "cat g", "new\n");
        Check.line(x, 0, "echo > > h", 0);
        Check.shows(x, 0, "cat h", ">\n");
        Check.line(x, 0, "echo > h", 0);
        Check.shows(x, 0, "cat h", "\n");
        Check.line(x, 0, "echo a > x/y", -1);
        Check.line(x, 0, "echo a > f/y", -2);
        Check.line(x, 0, "echo a > #7", -5);
        Check.line(x, 0, "chmod 644 f", 0);
        Check.line(x, 1, "echo a > f", -3);
        Check.line(x, 1, "echo a >> f", -3);
        Check.line(x, 0, "size 600 f", 0);
        Check.line(x, 0, "echo a >> f", -12);
        Check.line(x, 0, "echo abcdefghijklm > abcdefghijklm", -5);
        Check.due("fids", x.server(0, 2), 2);
        String words = "12345678901234567890123456789012345678901234567890123456789012345678901234567890";
        Check.line(x, 0, "echo " + words + " 2345678901 > f", 0);
        Check.shows(x, 0, "stat f", "f -644 92 ann 7\n");
    }

    private static void mkdirAndRm() {
        SpaceHouse x = Check.house(1);
        x.login(2);
        int before = x.messages();
        Check.line(x, 0, "mkdir d", 0);
        Check.due("kinds", Check.kinds(x, before), "110 111 114 115 120 121");
        Check.due("create", Check.message(x, before + 2), "13000000720100" + "02000000" + "0100"
            + "64" + "ff010080" + "00");
        Check.line(x, 0, "mkdir d", -4);
        Check.line(x, 0, "mkdir d/e", 0);
        Check.line(x, 0, "mkdir x/e", -1);
        Check.line(x, 0, "rm d", -11);
        Check.line(x, 0, "chmod 755 d", 0);
        Check.line(x, 1, "rm d/e", -3);
        Check.line(x, 1, "mkdir d/f", -3);
        before = x.messages();
        Check.line(x, 0, "rm d/e", 0);
        Check.due("kinds", Check.kinds(x, before), "110 111 110 111 120 121 110 111 120 121 122 123");
        Check.line(x, 1, "rm d", 0);
        Check.line(x, 0, "rm d", -1);
        before = x.messages();
        Check.line(x, 0, "rm /", -3);
        Check.due("remove is a clunk", Check.kinds(x, before), "110 111 122 107");
        Check.due("files", x.server(0, 0), 1);
        Check.due("fids", x.server(0, 2), 2);
    }

    private static void changes() {
        SpaceHouse x = Check.house(1);
        x.login(2);
        Check.line(x, 0, "echo abc > f", 0);
        Check.line(x, 0, "echo > g", 0);
        int before = x.messages();
        Check.line(x, 0, "mv f h", 0);
        Check.due("kinds", Check.kinds(x, before), "110 111 110 111 120 121 126 127 120 121");
        String ones = "ffffffffffff" + "ffffffffffffffffffffffffff" + "ffffffff" + "ffffffffffffffff";
        Check.due("wstat", Check.message(x, before + 6), "3f0000007e0100" + "03000000" + "3200"
            + "3000" + ones + "ffffffffffffffff" + "0100" + "68" + "000000000000");
        Check.line(x, 0, "mv h g", -4);
        Check.line(x, 0, "mv h a/b", -5);
        Check.line(x, 0, "mv / a", -3);
        Check.line(x, 0, "mv f a", -1);
        before = x.messages();
        Check.line(x, 0, "size 2 h", 0);
        Check.due("wstat", Check.message(x, before + 6), "3e0000007e0100" + "03000000" + "3100"
            + "2f00" + ones + "0200000000000000" + "0000" + "000000000000");
        Check.shows(x, 0, "cat h", "ab");
        Check.line(x, 0, "size 0004 h", 0);
        Check.shows(x, 0, "cat h", "ab\0\0");
        Check.line(x, 0, "size 601 h", -12);
        Check.line(x, 0, "size 1 /", -10);
        before = x.messages();
        Check.line(x, 0, "chmod 60 h", 0);
        Check.due("kinds", Check.kinds(x, before),
            "110 111 110 111 120 121 124 125 126 127 120 121");
        Check.due("wstat", Check.message(x, before + 8), "3e0000007e0100" + "03000000" + "3100"
            + "2f00" + "ffffffffffff" + "ffffffffffffffffffffffffff" + "30000000"
            + "ffffffffffffffff" + "ffffffffffffffff" + "0000" + "000000000000");
        Check.shows(x, 0, "stat h", "h -060 4 ann 3\n");
        Check.line(x, 1, "chmod 666 h", -3);
        Check.line(x, 0, "size 1 h", -3);
        Check.line(x, 0, "chmod 7 h", 0);
        Check.line(x, 1, "size 1 h", 0);
        Check.line(x, 0, "mkdir d", 0);
        Check.line(x, 0, "chmod 0 d", 0);
        Check.shows(x, 0, "stat d", "d d000 0 ann 0\n");
        Check.line(x, 0, "stat d/x", -3);
        Check.due("fids", x.server(0, 2), 2);
    }

    private static void stat() {
        SpaceHouse x = Check.house(3);
        Check.shows(x, 0, "stat /", "/ d777 0 adm 0\n");
        Check.line(x, 0, "mkdir d", 0);
        Check.shows(x, 0, "stat /", "/ d777 0 adm 1\n");
        Check.shows(x, 0, "stat d", "d d777 0 eve 0\n");
        Wire w = new Wire(x, 0);
        w.attach(1, "bob");
        w.create(1, "grows", 1L << 30 | 0501, 1);
        w.write(1, 0, "0123456789");
        Check.shows(x, 0, "stat grows", "grows a501 10 bob 1\n");
        int before = x.messages();
        Check.line(x, 0, "stat x", -1);
        Check.line(x, 0, "stat /", 0);
        Check.due("kinds", Check.kinds(x, before), "110 111 110 107 120 121"
            + " 110 111 124 125 120 121");
    }

    private static void fids() {
        SpaceHouse x = Check.house(2);
        Check.due("PATH", x.fid(0, 0, 0), 0);
        Check.due("user", x.fid(0, 0, 1), 2);
        Check.due("not open", x.fid(0, 0, 2), -1);
        Check.due("another what", x.fid(0, 0, 3), -100);
        Check.due("another what", x.fid(0, 0, -1), -100);
        Check.due("no fid", x.fid(0, 1, 3), -1);
        Check.due("no fid", x.fid(0, -1, 0), -1);
        Check.due("no fid", x.fid(0, 48, 0), -1);
        Check.due("no server", x.fid(3, 0, 0), -1);
        Check.due("no server", x.fid(-1, 0, 9), -1);
        Check.line(x, 0, "create 666 f 2", 0);
        Check.due("PATH", x.fid(0, 1, 0), 1);
        Check.due("open", x.fid(0, 1, 2), 2);
        Check.line(x, 0, "open #2/0/status 0", 0);
        Check.due("PATH", x.fid(2, 0, 0), 17);
        Check.due("open", x.fid(2, 0, 2), 0);
        Wire w = new Wire(x, 0);
        Check.due("attach", w.attach(7, "eve"), 0);
        Check.due("not one from outside", x.fid(0, 7, 0), -1);
        Check.due("server 0", x.server(0, 3), 1);
        Check.due("server -1", x.server(-1, 0), -100);
        Check.due("server 3", x.server(3, 0), -100);
        Check.due("what 6", x.server(0, 6), -100);
        Check.due("what -1", x.server(0, -1), -100);
    }

    private static void lackOfFids() {
        SpaceHouse x = Check.house(1);
        Check.line(x, 0, "mkdir d", 0);
        Check.line(x, 0, "echo a > d/f", 0);
        for (int p = 1; p < 6; p++) {
            x.login(1);
        }
        for (int p = 0; p < 5; p++) {
            for (int d = 0; d < 8; d++) {
                Check.line(x, p, "open d/f 0", 0);
            }
        }
        Check.due("fids", x.server(0, 2), 46);
        Check.shows(x, 5, "cat d/f", "a\n");
        Check.line(x, 5, "open / 0", 0);
        Check.due("fids", x.server(0, 2), 47);
        int before = x.messages();
        Check.line(x, 5, "cat d/f", -12);
        Check.due("there is none for d", Check.kinds(x, before), "110 111 120 121");
        Check.shows(x, 5, "stat /", "/ d777 0 adm 1\n");
        Check.line(x, 5, "open / 0", 0);
        before = x.messages();
        Check.line(x, 5, "stat /", -12);
        Check.due("nothing is asked", x.messages(), before);
        Check.shows(x, 5, "stat #1", "/ d777 0 adm 0\n");
        Check.line(x, 5, "fork s", -12);
        Check.line(x, 5, "fork c", -12);
        Check.due("no process", x.process(6, 0), -1);
    }
}
