/** Name spaces: bind, mount, unmount (promise 3), POINTS and MEMBERS (18, 19). */
public final class SpaceTest {
    private SpaceTest() {
    }

    public static void main(String[] args) {
        replacing();
        unions();
        ownPoint();
        copiesOfPoints();
        refusals();
        limits();
        mounting();
        unmounting();
        walkingThrough();
        goneMembers();
        creating();
        noNewFid();
        faces();
        Check.end("SpaceTest");
    }

    /** The MEMBERS of all POINTS of process p: server:PATH=server:fid:PATH[c] ... */
    static String points(SpaceHouse x, int p) {
        StringBuilder text = new StringBuilder();
        for (int k = 0; x.point(p, k, 0) >= 0; k++) {
            text.append(k == 0 ? "" : " ").append(x.point(p, k, 0)).append(':')
                .append(x.point(p, k, 1)).append('=');
            for (int j = 0; x.member(p, k, j, 0) >= 0; j++) {
                text.append(j == 0 ? "" : ",").append(x.member(p, k, j, 0)).append(':')
                    .append(x.member(p, k, j, 1)).append(':').append(x.member(p, k, j, 2))
                    .append(x.member(p, k, j, 3) == 1 ? "c" : "");
            }
            Check.due("MEMBERS", x.member(p, k, x.point(p, k, 2) - 1, 0) >= 0 ? 1 : 0, 1);
            Check.due("MEMBERS", x.member(p, k, x.point(p, k, 2), 0), -1);
        }
        return text.toString();
    }

    /** Directories a 1, b 2, c 3 with files x 4, y 5, z 6, and a file f 7. */
    private static SpaceHouse filled() {
        SpaceHouse x = Check.house(1);
        String[] names = {"a", "b", "c"};
        for (String name : names) {
            Check.line(x, 0, "mkdir " + name, 0);
        }
        Check.line(x, 0, "echo in a > a/x", 0);
        Check.line(x, 0, "echo in b > b/y", 0);
        Check.line(x, 0, "echo in c > c/z", 0);
        Check.line(x, 0, "echo in f > f", 0);
        return x;
    }

    private static void replacing() {
        SpaceHouse x = filled();
        int before = x.messages();
        Check.line(x, 0, "bind b a", 0);
        Check.due("kinds", Check.kinds(x, before), "110 111 110 111 120 121"
            + " 110 111 110 111 120 121 120 121");
        Check.due("O goes", Check.message(x, x.messages() - 2), "0b000000780100" + "03000000");
        Check.due("points", points(x, 0), "0:1=0:2:2");
        Check.shows(x, 0, "ls a", "y\n");
        Check.shows(x, 0, "cat a/y", "in b\n");
        Check.line(x, 0, "cat a/x", -1);
        Check.shows(x, 0, "ls /", "a/\nb/\nc/\nf\n");
        before = x.messages();
        Check.line(x, 0, "bind -c c a", 0);
        Check.due("N, O, the MEMBER that was there, O", Check.kinds(x, before),
            "110 111 110 111 120 121 110 111 110 111 120 121 120 121 120 121");
        Check.due("the MEMBER", Check.message(x, x.messages() - 4), "0b000000780100" + "02000000");
        Check.due("points", points(x, 0), "0:1=0:3:3c");
        Check.line(x, 0, "bind a/z f", 0);
        Check.due("points", points(x, 0), "0:1=0:3:3c 0:7=0:1:6");
        Check.shows(x, 0, "cat f", "in c\n");
        Check.shows(x, 0, "stat f", "z -666 5 ann 1\n");
        Check.line(x, 0, "rm f", 0);
        Check.line(x, 0, "cat f", -1);
        Check.due("AT, not THROUGH", x.server(0, 0), 7);
        Check.due("fids", x.server(0, 2), 3);
    }

    private static void unions() {
        SpaceHouse x = filled();
        Check.line(x, 0, "bind -a b a", 0);
        Check.due("points", points(x, 0), "0:1=0:3:1,0:2:2");
        Check.shows(x, 0, "ls a", "x\ny\n");
        Check.line(x, 0, "bind -b c a", 0);
        Check.due("points", points(x, 0), "0:1=0:4:3,0:3:1,0:2:2");
        Check.shows(x, 0, "ls a", "z\nx\ny\n");
        Check.shows(x, 0, "cat a/x", "in a\n");
        Check.shows(x, 0, "cat a/y", "in b\n");
        Check.shows(x, 0, "cat a/z", "in c\n");
        Check.line(x, 0, "cat a/w", -1);
        Check.line(x, 0, "unmount a", 0);
        Check.line(x, 0, "bind -ab b a", 0);
        Check.due("b before a", points(x, 0), "0:1=0:2:2,0:3:1");
        Check.line(x, 0, "bind -aca c a", 0);
        Check.due("points", points(x, 0), "0:1=0:2:2,0:3:1,0:4:3c");
        Check.line(x, 0, "bind -b #2 b", 0);
        Check.due("points", points(x, 0), "0:1=0:2:2,0:3:1,0:4:3c 0:2=2:0:0,0:5:2");
        Check.shows(x, 0, "ls b", "cons\n0/\ny\n");
        Check.shows(x, 0, "cat b/0/status", "ann 0 2\n");
        Check.due("point", x.process(0, 3), 2);
    }

    private static void ownPoint() {
        SpaceHouse x = filled();
        Check.line(x, 0, "bind -bc b a", 0);
        Check.due("points", points(x, 0), "0:1=0:2:2c,0:3:1");
        int before = x.messages();
        Check.line(x, 0, "bind -a a a", 0);
        // N is a walk of 0 names from the first MEMBER, and one MEMBER
        Check.due("kinds", Check.kinds(x, before), "110 111 110 111 120 121 110 111 120 121"
            + " 110 111 110 111 120 121 120 121");
        Check.due("points", points(x, 0), "0:1=0:2:2c,0:3:1,0:1:2");
        Check.line(x, 0, "bind a a", 0);
        Check.due("points", points(x, 0), "0:1=0:4:2");
        Check.shows(x, 0, "ls a", "y\n");
    }

    private static void copiesOfPoints() {
        SpaceHouse x = filled();
        Check.line(x, 0, "bind -bc b a", 0);
        int before = x.messages();
        Check.line(x, 0, "bind -a a c", 0);
        // N: /, a, through; O: /, c; both MEMBERS copied, N goes
        Check.due("kinds", Check.kinds(x, before), "110 111 110 111 120 121 110 111 120 121"
            + " 110 111 110 111 120 121 110 111 110 111 120 121");
        Check.due("N went", Check.message(x, x.messages() - 2), "0b000000780100" + "01000000");
        Check.due("points", points(x, 0), "0:1=0:2:2c,0:3:1 0:3=0:5:3,0:4:2c,0:6:1");
        Check.line(x, 0, "bind -c a #1", 0);
        Check.due("points", points(x, 0),
            "0:1=0:2:2c,0:3:1 0:3=0:5:3,0:4:2c,0:6:1 1:0=0:7:2c,0:8:1c");
        Check.shows(x, 0, "ls #1", "y\nx\n");
        before = x.messages();
        Check.line(x, 0, "bind c a", 0);
        // three MEMBERS copied, N goes, the two that were there go, O goes
        Check.due("the last of them", Check.kinds(x, x.messages() - 14), "110 111 110 111 110 111"
            + " 120 121 120 121 120 121 120 121");
        Check.due("points", points(x, 0),
            "0:1=0:9:3,0:11:2c,0:12:1 0:3=0:5:3,0:4:2c,0:6:1 1:0=0:7:2c,0:8:1c");
        Check.due("fids", x.server(0, 2), 9);
        Check.line(x, 0, "unmount a", 0);
        Check.line(x, 0, "unmount c", 0);
        Check.due("points", points(x, 0), "1:0=0:7:2c,0:8:1c");
    }

    private static void refusals() {
        SpaceHouse x = filled();
        int before = x.messages();
        Check.line(x, 0, "bind f a", -16);
        Check.due("O goes first, then N", Check.kinds(x, before), "110 111 110 111 120 121"
            + " 110 111 110 111 120 121 120 121 120 121");
        Check.due("O", Check.message(x, x.messages() - 4), "0b000000780100" + "03000000");
        Check.due("N", Check.message(x, x.messages() - 2), "0b000000780100" + "02000000");
        Check.line(x, 0, "bind a f", -16);
        Check.line(x, 0, "bind -a f f", -16);
        Check.line(x, 0, "bind -c f f", -16);
        Check.line(x, 0, "bind -b a f", -16);
        Check.line(x, 0, "mount 1 f", -16);
        Check.due("the attach goes, too", x.server(1, 2), 0);
        Check.line(x, 0, "bind x a", -1);
        before = x.messages();
        Check.line(x, 0, "bind a x", -1);
        Check.due("N goes behind", Check.kinds(x, before), "110 111 110 111 120 121"
            + " 110 111 110 107 120 121 120 121");
        Check.due("N", Check.message(x, x.messages() - 2), "0b000000780100" + "02000000");
        Check.line(x, 0, "bind a #3", -5);
        Check.line(x, 0, "bind #3 a", -5);
        Check.line(x, 0, "mount 0 #3", -5);
        Check.due("no points", points(x, 0), "");
        Check.due("fids", x.server(0, 2), 1);
    }

    private static void limits() {
        SpaceHouse x = filled();
        for (int i = 0; i < 5; i++) {
            Check.line(x, 0, "bind -a b a", 0);
        }
        Check.due("MEMBERS", x.point(0, 0, 2), 6);
        Check.line(x, 0, "bind -a b a", -20);
        Check.line(x, 0, "bind -b a a", -20);
        Check.line(x, 0, "bind -b a c", -20);
        Check.line(x, 0, "bind a c", 0);
        Check.due("six without a or b", x.point(0, 1, 2), 6);
        Check.line(x, 0, "bind a c", 0);
        Check.due("instead of six", x.point(0, 1, 2), 6);
        Check.line(x, 0, "bind b a", 0);
        Check.due("one instead of six", x.point(0, 0, 2), 1);
        Check.line(x, 0, "bind -a c b", -20);
        Check.due("points", x.process(0, 3), 2);
        Check.line(x, 0, "bind a /", 0);
        Check.line(x, 0, "unmount /", 0);
        Check.line(x, 0, "bind f #2/cons", 0);
        Check.line(x, 0, "bind f f", 0);
        Check.line(x, 0, "bind f a/y", 0);
        Check.line(x, 0, "bind b #1", 0);
        Check.line(x, 0, "bind b #2", 0);
        Check.line(x, 0, "bind b b", 0);
        Check.due("points", x.process(0, 3), 8);
        int fids = x.server(0, 2);
        Check.line(x, 0, "bind b #2/0", -1);
        Check.line(x, 0, "unmount #2", 0);
        Check.line(x, 0, "bind -c a /", 0);
        Check.due("eight again", x.process(0, 3), 8);
        Check.line(x, 0, "bind #1 #2/0", -20);
        Check.line(x, 0, "mount 1 #2/0", -20);
        Check.due("one that is there", x.server(0, 2), fids);
        Check.line(x, 0, "bind -a y #1", -16);
        Check.line(x, 0, "bind -a / #1", 0);
        Check.due("fids", x.server(0, 2), fids + 1);
    }

    private static void mounting() {
        SpaceHouse x = filled();
        Check.line(x, 0, "mkdir #1/q", 0);
        int before = x.messages();
        Check.line(x, 0, "mount -bc 1 a", 0);
        Check.due("kinds", Check.kinds(x, before), "104 105 110 111 110 111 120 121");
        Check.due("attach by the user", Check.message(x, before), "16000000680100" + "00000000"
            + "ffffffff" + "0300616e6e" + "0000");
        Check.due("points", points(x, 0), "0:1=1:0:0c,0:2:1");
        Check.shows(x, 0, "ls a", "q/\nx\n");
        Check.line(x, 0, "echo new > a/new", 0);
        Check.shows(x, 0, "cat #1/new", "new\n");
        Check.line(x, 0, "mount 2 b", 0);
        Check.shows(x, 0, "ls b", "cons\n0/\n");
        // N of a mount is never a POINT'S
        Check.line(x, 0, "bind c #1", 0);
        Check.line(x, 0, "mount 1 b", 0);
        Check.due("points", points(x, 0), "0:1=1:0:0c,0:2:1 0:2=1:1:0 1:0=0:3:3");
        Check.line(x, 0, "mount -a 0 b", 0);
        Check.due("points", points(x, 0), "0:1=1:0:0c,0:2:1 0:2=1:1:0,0:1:0 1:0=0:3:3");
    }

    private static void unmounting() {
        SpaceHouse x = filled();
        Check.line(x, 0, "bind -a b a", 0);
        Check.line(x, 0, "bind -a c a", 0);
        Check.line(x, 0, "bind -a b a", 0);
        Check.due("points", points(x, 0), "0:1=0:3:1,0:2:2,0:4:3,0:5:2");
        int before = x.messages();
        Check.line(x, 0, "unmount b a", 0);
        Check.due("both are clunked, O first, then the MEMBER", Check.kinds(x, before),
            "110 111 110 111 120 121 110 111 110 111 120 121 120 121 120 121 120 121");
        Check.due("O", Check.message(x, x.messages() - 6), "0b000000780100" + "07000000");
        Check.due("N", Check.message(x, x.messages() - 4), "0b000000780100" + "06000000");
        Check.due("the first such", points(x, 0), "0:1=0:3:1,0:4:3,0:5:2");
        Check.line(x, 0, "unmount f a", -1);
        Check.line(x, 0, "unmount b c", -1);
        Check.line(x, 0, "unmount c", -1);
        Check.line(x, 0, "unmount x", -1);
        Check.line(x, 0, "unmount x a", -1);
        Check.line(x, 0, "unmount b x", -1);
        Check.line(x, 0, "unmount a a", 0);
        Check.line(x, 0, "unmount c a", 0);
        Check.due("one is left", points(x, 0), "0:1=0:5:2");
        Check.line(x, 0, "bind c f", -16);
        Check.line(x, 0, "bind f f", 0);
        Check.line(x, 0, "unmount b a", 0);
        Check.due("with it the POINT", points(x, 0), "0:7=0:2:7");
        Check.line(x, 0, "unmount b a", -1);
        Check.line(x, 0, "bind -a b a", 0);
        Check.line(x, 0, "bind -a c a", 0);
        before = x.messages();
        Check.line(x, 0, "unmount a", 0);
        Check.due("all in turn", Check.kinds(x, before),
            "110 111 110 111 120 121 120 121 120 121 120 121 120 121");
        Check.due("points", points(x, 0), "0:7=0:2:7");
        Check.line(x, 0, "unmount #0/f", 0);
        Check.due("points", points(x, 0), "");
        Check.due("fids", x.server(0, 2), 1);
    }

    private static void walkingThrough() {
        SpaceHouse x = filled();
        Check.line(x, 0, "bind -a b a", 0);
        int before = x.messages();
        Check.line(x, 0, "cat a/y", 0);
        // from / to 1, a: 4, 1 goes; from MEMBER a: no; from MEMBER b: 1, 4 goes; open, read
        Check.due("kinds", Check.kinds(x, before), "110 111 110 111 120 121"
            + " 110 107 110 111 120 121 112 113 116 117 116 117 120 121");
        Check.due("from MEMBER a", Check.message(x, before + 6), "140000006e0100" + "03000000"
            + "01000000" + "0100" + "0100" + "79");
        Check.due("from MEMBER b", Check.message(x, before + 8), "140000006e0100" + "02000000"
            + "01000000" + "0100" + "0100" + "79");
        Check.line(x, 0, "chmod 0 a", 0);
        Check.line(x, 0, "cat a/y", 0);
        Check.line(x, 0, "cat a/x", -1);
        Check.line(x, 0, "unmount a", 0);
        Check.line(x, 0, "chmod 777 a", 0);
        Check.line(x, 0, "bind -b b a", 0);
        Check.line(x, 0, "chmod 0 #0/a", 0);
        Check.line(x, 0, "chmod 0 b", 0);
        Check.line(x, 0, "cat b/y", -3);
        Check.line(x, 0, "chmod 777 b", 0);
        Check.line(x, 0, "cat a/x", -3);
        Check.shows(x, 0, "ls a", -3, "y\n");
        // .. is taken from the PATH before it is walked
        Check.shows(x, 0, "cat a/../b/y", "in b\n");
        // the ROOT, too, may be a POINT
        Check.line(x, 0, "bind c /", 0);
        Check.shows(x, 0, "ls /", "z\n");
        Check.shows(x, 0, "cat /z", "in c\n");
        Check.line(x, 0, "cat /b/y", -1);
        Check.line(x, 0, "unmount /", 0);
        Check.shows(x, 0, "cat /b/y", "in b\n");
    }

    private static void goneMembers() {
        SpaceHouse x = filled();
        Check.line(x, 0, "mkdir d", 0);
        Check.line(x, 0, "bind -b d a", 0);
        Check.line(x, 0, "rm d", 0);
        Check.due("points", points(x, 0), "0:1=0:2:8,0:3:1");
        Check.shows(x, 0, "cat a/x", "in a\n");
        Check.line(x, 0, "ls a", -1);
        Check.line(x, 0, "cd a", -1);
        Check.line(x, 0, "stat a", -1);
        Check.line(x, 0, "bind a c", -1);
        Check.line(x, 0, "fork c", -1);
        Check.line(x, 0, "unmount d a", -1);
        Check.due("fids", x.server(0, 2), 3);
        Check.line(x, 0, "echo a > a/w", -1);
        Check.line(x, 0, "unmount a", 0);
        Check.due("fids", x.server(0, 2), 1);
        // the second MEMBER is gone: what was made before goes again, the latest first
        Check.line(x, 0, "mkdir d", 0);
        Check.line(x, 0, "bind -a d a", 0);
        Check.line(x, 0, "rm d", 0);
        int before = x.messages();
        Check.line(x, 0, "bind a c", -1);
        Check.due("the end", Check.kinds(x, x.messages() - 10),
            "110 111 110 107 120 121 120 121 120 121");
        Check.due("the copy", Check.message(x, x.messages() - 6), "0b000000780100" + "04000000");
        Check.due("O", Check.message(x, x.messages() - 4), "0b000000780100" + "05000000");
        Check.due("N", Check.message(x, x.messages() - 2), "0b000000780100" + "01000000");
        before = x.messages();
        Check.line(x, 0, "fork c", -1);
        Check.due("the copy, then the root", Check.kinds(x, before),
            "110 111 110 111 110 107 120 121 120 121");
        Check.due("the copy", Check.message(x, x.messages() - 4), "0b000000780100" + "04000000");
        Check.due("the root", Check.message(x, x.messages() - 2), "0b000000780100" + "01000000");
        before = x.messages();
        Check.shows(x, 0, "ls a", -1, "x\n");
    }

    private static void creating() {
        SpaceHouse x = filled();
        Check.line(x, 0, "bind -a b a", 0);
        int before = x.messages();
        Check.line(x, 0, "mkdir a/new", -17);
        Check.due("it is clunked before", Check.kinds(x, before), "110 111 110 111 120 121"
            + " 110 111 120 121 120 121");
        Check.line(x, 0, "create 666 a/new 1", -17);
        Check.line(x, 0, "echo a > a/new", -17);
        Check.line(x, 0, "echo new > a/x", 0);
        Check.shows(x, 0, "cat a/x", "new\n");
        Check.line(x, 0, "bind -ac c a", 0);
        before = x.messages();
        Check.line(x, 0, "mkdir a/new", 0);
        Check.due("kinds", Check.kinds(x, before), "110 111 110 111 120 121"
            + " 110 111 120 121 120 121 110 111 114 115 120 121");
        Check.shows(x, 0, "ls c", "z\nnew/\n");
        Check.line(x, 0, "bind -bc b a", 0);
        Check.line(x, 0, "mkdir a/new", 0);
        Check.shows(x, 0, "ls b", "y\nnew/\n");
        Check.line(x, 0, "mkdir a/y", -4);
        Check.shows(x, 0, "create 666 a/made 1", "0\n");
        Check.shows(x, 0, "ls b", "y\nnew/\nmade\n");
        Check.line(x, 0, "rm a/made", 0);
        Check.line(x, 0, "unmount c a", 0);
        Check.line(x, 0, "unmount b a", 0);
        Check.line(x, 0, "unmount b a", 0);
        Check.due("a is left", x.point(0, 0, 2), 1);
        Check.line(x, 0, "mkdir a/w", -17);
    }

    private static void noNewFid() {
        SpaceHouse x = filled();
        Check.line(x, 0, "bind -a b a", 0);
        for (int p = 1; p < 6; p++) {
            x.login(1);
        }
        for (int p = 0; p < 5; p++) {
            for (int d = 0; d < 8 && x.server(0, 2) < 46; d++) {
                Check.line(x, p, "open f 0", 0);
            }
        }
        Check.line(x, 5, "bind #1 c", 0);
        Check.due("fids", x.server(0, 2), 46);
        Check.line(x, 5, "bind f f", -12);
        Check.due("bind is not done", points(x, 5), "0:3=1:0:0");
        Check.line(x, 0, "fork c", -12);
        Check.due("fork is not done", x.process(6, 0), -1);
        Check.due("fids", x.server(0, 2), 46);
        Check.line(x, 0, "bind a c", -12);
        Check.line(x, 0, "cat a/y", 0);
        Check.line(x, 0, "open f 0", -20);
        Check.line(x, 4, "open f 0", 0);
        Check.due("fids", x.server(0, 2), 47);
        // from the MEMBERS there is no NEW FID either; the last one's is the error
        Check.line(x, 0, "cat a/y", -12);
        Check.line(x, 0, "mount -a 1 /", 0);
        Check.due("fids", x.server(0, 2), 48);
        Check.line(x, 0, "ls /", -12);
        Check.shows(x, 0, "cat #2/0/status", "ann 8 2\n");
        Check.line(x, 1, "close 0", 0);
        Check.line(x, 0, "mkdir #1/q", 0);
        Check.line(x, 0, "cd #2", 0);
        Check.shows(x, 0, "stat #1/q", "q d777 0 ann 0\n");
        // one is left for /, none for q in the first MEMBER; the next one has it
        int before = x.messages();
        Check.line(x, 0, "stat /q", 0);
        Check.due("kinds", Check.kinds(x, before), "110 111 110 111 120 121 124 125 120 121");
    }

    private static void faces() {
        SpaceHouse x = filled();
        Check.line(x, 0, "bind -a #1 a", 0);
        Check.due("point server", x.point(0, 0, 0), 0);
        Check.due("point PATH", x.point(0, 0, 1), 1);
        Check.due("point MEMBERS", x.point(0, 0, 2), 2);
        Check.due("point what 3", x.point(0, 0, 3), -100);
        Check.due("point what -1", x.point(0, 0, -1), -100);
        Check.due("point 1", x.point(0, 1, 9), -1);
        Check.due("point -1", x.point(0, -1, 0), -1);
        Check.due("point of no process", x.point(1, 0, 0), -1);
        Check.due("member what 4", x.member(0, 0, 0, 4), -100);
        Check.due("member what -1", x.member(0, 0, 0, -1), -100);
        Check.due("member 2", x.member(0, 0, 2, 4), -1);
        Check.due("member -1", x.member(0, 0, -1, 0), -1);
        Check.due("member of no point", x.member(0, 1, 0, 0), -1);
        Check.due("member of no process", x.member(-1, 0, 0, 0), -1);
        Check.due("member server", x.member(0, 0, 1, 0), 1);
        Check.due("member fid", x.member(0, 0, 1, 1), 0);
        Check.due("member PATH", x.member(0, 0, 1, 2), 0);
        Check.due("member to CREATE in", x.member(0, 0, 1, 3), 0);
    }
}
