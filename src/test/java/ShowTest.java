/** Server 2: what it shows of processes, the console, and who goes when (promises 3, 7, 8, 13, 21). */
public final class ShowTest {
    private static final long DIR = 1L << 31;

    private ShowTest() {
    }

    public static void main(String[] args) {
        files();
        refusals();
        status();
        cons();
        kill();
        killFromOutside();
        gone();
        Check.end("ShowTest");
    }

    private static void files() {
        SpaceHouse x = Check.house(2);
        x.login(1);
        Check.due("files", x.server(2, 0), 8);
        Check.shows(x, 0, "ls #2", "cons\n0/\n1/\n");
        Check.shows(x, 0, "ls #2/1", "status\nctl\n");
        Check.shows(x, 0, "stat #2", "/ d555 0 adm 0\n");
        Check.shows(x, 0, "stat #2/cons", "cons -666 0 adm 0\n");
        Check.shows(x, 0, "stat #2/0", "0 d555 0 bob 0\n");
        Check.shows(x, 0, "stat #2/1/status", "status -444 0 ann 0\n");
        Check.shows(x, 0, "stat #2/1/ctl", "ctl -200 0 ann 0\n");
        Wire w = new Wire(x, 2);
        Check.due("attach", w.attach(1, "eve"), 0);
        Check.due("walk", w.walk(1, 2, "1", "ctl"), 0);
        Check.due("PATH", w.number(14, 8), 32);
        Check.due("PATH", w.number(27, 8), 34);
        Check.due("KIND", w.number(9, 1), 128);
        Check.due("KIND", w.number(22, 1), 0);
        Check.due("walk", w.walk(1, 3, "0", "status", "x"), 0);
        Check.due("QIDs", w.number(7, 2), 2);
        Check.due("PATH", w.number(27, 8), 17);
        Check.due("stat", w.stat(2), 0);
        Check.due("gid", w.text(9 + 41 + 5 + 5), "ann");
        Check.due("muid", w.text(9 + 41 + 5 + 10), "ann");
        Check.due("walk", w.walk(1, 4, "cons"), 0);
        Check.due("PATH", w.number(14, 8), 1);
        // a process that comes between the others stands between them
        x.login(0);
        Check.line(x, 1, "exit", 0);
        Check.shows(x, 0, "ls #2", "cons\n0/\n2/\n");
        x.login(3);
        Check.shows(x, 0, "ls #2", "cons\n0/\n1/\n2/\n");
        Check.due("files", x.server(2, 0), 11);
        Check.due("bytes", x.server(2, 1), 0);
    }

    private static void refusals() {
        SpaceHouse x = Check.house(1);
        Wire w = new Wire(x, 2);
        w.attach(0, "adm");
        w.attach(1, "ann");
        Check.due("create", w.create(1, "/", 512, 255), 3);
        Check.due("cons", w.walk(1, 2, "cons"), 0);
        Check.due("create: behind 2", w.create(2, "x", 0, 0), 2);
        Check.due("wstat of nothing", w.wstat(2, -1, -1, ""), 0);
        Check.due("wstat", w.wstat(2, -1, 0, ""), 3);
        Check.due("wstat", w.wstat(2, 0666, -1, ""), 3);
        Check.due("wstat", w.wstat(2, -1, -1, "/"), 3);
        Check.due("remove", w.remove(2), 3);
        Check.due("the fid went", w.stat(2), 6);
        Check.due("cons", w.walk(1, 2, "cons"), 0);
        Check.due("open with 64", w.open(2, 64), 3);
        Check.due("16 before that", w.open(2, 68), 16);
        Check.due("10 before that", w.open(1, 65), 10);
        Check.due("3", w.open(1, 64), 3);
        Check.due("execute", w.open(2, 3), 3);
        Check.due("open with 16", w.open(2, 17), 0);
        Check.due("VERSION", w.number(8, 4), 0);
        Check.due("status", w.walk(1, 3, "0", "status"), 0);
        Check.due("3 to write", w.open(3, 1), 3);
        Check.due("3 with 16", w.open(3, 16), 3);
        Check.due("10 of a directory with 16", w.open(1, 16), 10);
        Check.due("ctl", w.walk(1, 4, "0", "ctl"), 0);
        Check.due("3 to read", w.open(4, 0), 3);
        Check.due("3 to read and write", w.open(4, 2), 3);
        Check.due("ctl of another user", w.walk(0, 5, "0", "ctl"), 0);
        Check.due("3", w.open(5, 1), 3);
        Check.due("open", w.open(4, 1), 0);
        Check.due("9", w.read(4, 0, 9), 9);
        String[] bad = {"", "kil", "kill\n\n", "kill ", "Kill", "\n", "kill\0"};
        for (String text : bad) {
            Check.due("14 of " + text, w.write(4, 0, text), 14);
        }
        Check.due("it lives", x.process(0, 0), 1);
    }

    private static void status() {
        SpaceHouse x = Check.house(3);
        Check.shows(x, 0, "cat #2/0/status", "eve 0 0\n");
        Check.line(x, 0, "echo a > f", 0);
        Check.line(x, 0, "open f 0", 0);
        Check.line(x, 0, "open f 1", 0);
        Check.line(x, 0, "bind f f", 0);
        Check.shows(x, 0, "cat #2/0/status", "eve 2 1\n");
        Check.line(x, 0, "fork e", 0);
        Check.shows(x, 1, "cat #2/1/status", "eve 2 0\n");
        Check.line(x, 0, "open #2/1/status 0", 0);
        Check.line(x, 0, "seek 2 4", 0);
        Check.shows(x, 0, "read 2 1", "2");
        Check.shows(x, 0, "read 2 100", " 0\n");
        Check.shows(x, 0, "read 2 100", "");
        Check.line(x, 0, "seek 2 9999", 0);
        Check.shows(x, 0, "read 2 100", "");
        Wire w = new Wire(x, 2);
        w.attach(1, "bob");
        w.walk(1, 2, "0", "status");
        w.open(2, 0);
        Check.due("read", w.read(2, 4, 4), 0);
        Check.due("from offset on", w.told(), "3 1\n");
        Check.due("read", w.read(2, 0x100000004L, 4), 0);
        Check.due("far behind", w.told(), "");
        Check.due("read", w.read(2, -1, 4), 0);
        Check.due("far behind", w.told(), "");
    }

    private static void cons() {
        SpaceHouse x = Check.house(1);
        Check.line(x, 0, "open #2/cons 2", 0);
        Check.shows(x, 0, "read 0 9", "");
        Check.input(x, "one two");
        Check.line(x, 0, "seek 0 77", 0);
        Check.shows(x, 0, "read 0 3", "one");
        Check.due("offset", x.descriptor(0, 0, 2), 80);
        Check.due("taken", x.input('!'), 5);
        Check.shows(x, 0, "cat #2/cons", " two!");
        Check.line(x, 0, "write 0 abc", 0);
        Check.line(x, 0, "echo d >> #2/cons", 0);
        Check.due("console", Check.console(x), "abcd\n");
        Wire w = new Wire(x, 2);
        Check.input(x, "xyz");
        w.attach(1, "eve");
        w.walk(1, 2, "cons");
        Check.due("open", w.open(2, 2), 0);
        Check.due("14", w.read(2, 0, 290), 14);
        Check.due("read from outside", w.read(2, -1, 2), 0);
        Check.due("bytes", w.told(), "xy");
        Check.due("write from outside", w.write(2, -1, "e\n"), 0);
        Check.due("console", Check.console(x), "abcd\ne\n");
    }

    private static void kill() {
        SpaceHouse x = Check.house(1);
        x.login(1);
        x.login(2);
        Check.line(x, 0, "echo a > f", 0);
        Check.line(x, 1, "open f 0", 0);
        Check.line(x, 1, "bind f f", 0);
        Check.line(x, 2, "echo kill > #2/1/ctl", -3);
        Check.line(x, 0, "echo kil > #2/1/ctl", -14);
        int before = x.messages();
        Check.line(x, 0, "if a = a echo kill > #2/1/ctl", 0);
        // the walk of 2 names, open, write, clunk; then open f, its MEMBER, its root
        Check.due("kinds", Check.kinds(x, before), "104 105 110 111 120 121 110 111 120 121 112 113"
            + " 118 119 120 121" + " 120 121 120 121 120 121");
        Check.due("it went", x.process(1, 0), -1);
        Check.due("files", x.server(2, 0), 8);
        Check.due("fids", x.server(0, 2), 2);
        // it goes behind all that the line does
        Check.due("login", x.login(1), 1);
        Check.line(x, 0, "echo echo kill > s", 0);
        Check.line(x, 0, "set p >", 0);
        Check.line(x, 0, "echo echo kill $p #2/1/ctl > s", 0);
        Check.line(x, 0, "echo ls #2 >> s", 0);
        Check.shows(x, 0, "run s", "cons\n0/\n1/\n2/\n");
        Check.due("it went", x.process(1, 0), -1);
        // its own: a SCRIPT and a for end with 0
        Check.line(x, 0, "echo echo kill $p #2/0/ctl > s", 0);
        Check.line(x, 0, "echo nonsense >> s", 0);
        Check.line(x, 0, "for y in a b do run s", 0);
        Check.due("it went", x.process(0, 0), -1);
        Check.due("enter", x.enter(0), -100);
    }

    private static void killFromOutside() {
        SpaceHouse x = Check.house(1);
        x.login(1);
        x.login(1);
        Wire w = new Wire(x, 2);
        w.attach(1, "ann");
        w.walk(1, 2, "0", "ctl");
        w.walk(1, 3, "2", "ctl");
        w.open(2, 1);
        w.open(3, 1);
        int before = x.messages();
        Check.due("kill", w.write(2, 5, "kill"), 0);
        Check.due("it went", x.process(0, 0), -1);
        Check.due("its root was clunked", Check.kinds(x, before), "120 121");
        Check.due("the fid is GONE", w.write(2, 5, "kill"), 1);
        Check.due("the others live", x.process(1, 0) + x.process(2, 0), 2);
        Check.due("kill and 10", w.write(3, 5, "kill\n"), 0);
        Check.due("it went", x.process(2, 0), -1);
        Check.due("files", x.server(2, 0), 5);
        Check.due("fids from outside", x.server(2, 3), 3);
    }

    private static void gone() {
        SpaceHouse x = Check.house(1);
        x.login(1);
        Wire w = new Wire(x, 2);
        w.attach(1, "ann");
        w.walk(1, 2, "1");
        w.walk(1, 3, "1", "status");
        w.walk(1, 4, "1", "status");
        w.open(3, 0);
        Check.line(x, 1, "exit", 0);
        Check.due("login", x.login(2), 1);
        Check.due("walk", w.walk(2, 5), 1);
        Check.due("..", w.walk(2, 5, ".."), 1);
        Check.due("read", w.read(3, 0, 9), 1);
        Check.due("stat", w.stat(4), 1);
        Check.due("clunk", w.clunk(4), 0);
        Check.due("the new one", w.walk(1, 5, "1", "status"), 0);
        Check.due("open", w.open(5, 0), 0);
        Check.due("read", w.read(5, 0, 20), 0);
        Check.due("status", w.told(), "bob 0 0\n");
    }
}
