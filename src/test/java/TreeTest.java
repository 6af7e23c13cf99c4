/** Promises 13, 14, 21: what the servers with a TREE answer from outside (DOC 1 and 2). */
public final class TreeTest {
    private static final long DIR = 1L << 31;
    private static final long GROWS = 1L << 30;

    private TreeTest() {
    }

    public static void main(String[] args) {
        forms();
        version();
        attach();
        walk();
        open();
        create();
        createdModes();
        read();
        readDirectory();
        write();
        clunkAndRemove();
        gone();
        stat();
        wstat();
        limits();
        Check.end("TreeTest");
    }

    private static Wire wire(SpaceHouse x) {
        return new Wire(x, 0);
    }

    /** A connection with fids 0 .. 3 at the ROOT, each of the user of its number. */
    private static Wire attached(SpaceHouse x) {
        Wire w = wire(x);
        Check.due("attach adm", w.attach(0, "adm"), 0);
        Check.due("attach ann", w.attach(1, "ann"), 0);
        Check.due("attach bob", w.attach(2, "bob"), 0);
        Check.due("attach eve", w.attach(3, "eve"), 0);
        return w;
    }

    /** A file or directory in the ROOT by a fid of a user; no fid stays at it. */
    private static void make(Wire w, long fid, String name, long perm) {
        Check.due("walk to make " + name, w.walk(fid, 999), 0);
        Check.due("make " + name, w.create(999, name, perm, 0), 0);
        Check.due("clunk " + name, w.clunk(999), 0);
    }

    private static void forms() {
        SpaceHouse x = new SpaceHouse();
        Wire w = wire(x);
        Check.due("6 bytes", w.hand(new byte[] {6, 0, 0, 0, 108, 1}), -1);
        Check.due("SIZE one too many", w.hand(new byte[] {10, 0, 0, 0, 108, 1, 0, 0, 0}), -1);
        Check.due("SIZE one too few", w.hand(new byte[] {8, 0, 0, 0, 108, 1, 0, 0, 0}), -1);
        Check.due("flush", w.hand(new byte[] {9, 0, 0, 0, 108, 1, 2, 0, 0}), 7);
        Check.due("flush", w.hex(), "070000006d0102");
        Check.due("flush of 3", w.ask(108, Wire.parts().put(0, 3)), 14);
        Check.due("flush of 1", w.ask(108, Wire.parts().put(0, 1)), 14);
        for (int type = 0; type < 256; type++) {
            boolean told = type >= 100 && type <= 126 && type % 2 == 0 && type != 102 && type != 106;
            if (!told) {
                Check.due("type " + type, w.ask(type, Wire.parts().put(0, 4)), 14);
            }
        }
        int[] lengths = {11, 4, 15, 4, 9, 2, 17, 4, 12, 5, 18, 11, 23, 16, 23, 16, 11, 4, 11, 4, 11, 4};
        int[] types = {100, 104, 108, 110, 112, 114, 116, 118, 120, 122, 124};
        for (int type : types) {
            Check.due("no parts of " + type, w.ask(type, Wire.parts()), 14);
        }
        Check.due("types and lengths", lengths.length, 2 * types.length);
        Check.due("attach", w.attach(0, "adm"), 0);
        Wire.Parts fid = Wire.parts().put(0, 4);
        Check.due("clunk with a byte more", w.ask(120, fid.put(0, 1)), 14);
        Check.due("remove with a byte more", w.ask(122, fid), 14);
        Check.due("stat with a byte more", w.ask(124, fid), 14);
        Check.due("open without mode", w.ask(112, Wire.parts().put(0, 4)), 14);
        Check.due("open with 2", w.ask(112, Wire.parts().put(0, 6)), 14);
        Check.due("read short", w.ask(116, Wire.parts().put(0, 15)), 14);
        Check.due("read long", w.ask(116, Wire.parts().put(0, 17)), 14);
        Check.due("version short", w.ask(100, Wire.parts().put(64, 4).put(2, 2).put(0, 1)), 14);
        Check.due("version long", w.ask(100, Wire.parts().put(64, 4).put(0, 2).put(0, 1)), 14);
        Check.due("walk with less", w.ask(110, Wire.parts().put(0, 4).put(1, 4).put(2, 2).text("a")), 14);
        Check.due("walk with more", w.ask(110, Wire.parts().put(0, 4).put(1, 4).put(0, 2).text("a")), 14);
        Check.due("walk with 65535", w.ask(110, Wire.parts().put(0, 4).put(1, 4).put(65535, 2)), 14);
        Check.due("write with less", w.ask(118, Wire.parts().put(0, 12).put(2, 4).put(0, 1)), 14);
        Check.due("write with more", w.ask(118, Wire.parts().put(0, 12).put(2, 4).put(0, 3)), 14);
        Check.due("write count", w.ask(118, Wire.parts().put(0, 12).put(0xFFFFFFFFL, 4)), 14);
        Check.due("create short", w.ask(114, Wire.parts().put(0, 4).text("a").put(0, 4)), 14);
        Check.due("create name", w.ask(114, Wire.parts().put(0, 4).put(9, 2).put(0, 5)), 14);
        byte[] stat = Wire.stat(-1, -1, -1, -1, -1, -1, "", "", "", "");
        Check.due("a STAT", w.wstat(0, stat), 0);
        stat[0]++;
        Check.due("its first number", w.wstat(0, stat), 14);
        stat[0]--;
        Check.due("n too great", w.ask(126, Wire.parts().put(0, 4).put(stat.length + 1, 2).raw(stat)), 14);
        Check.due("n too small", w.ask(126, Wire.parts().put(0, 4).put(stat.length - 1, 2).raw(stat)), 14);
        stat[41] = 1;
        Check.due("STRINGS behind its end", w.wstat(0, stat), 14);
        byte[] more = java.util.Arrays.copyOf(Wire.stat(-1, -1, -1, -1, -1, -1, "", "", "", ""), 50);
        more[0] = 48;
        Check.due("STRINGS before its end", w.wstat(0, more), 14);
        Check.due("14 before 6", w.ask(120, Wire.parts().put(9, 5)), 14);
        Check.due("the fid is still there", x.server(0, 3), 1);
    }

    private static void version() {
        SpaceHouse x = new SpaceHouse();
        Wire w = attached(x);
        Check.due("63", w.version(63, "9P2000"), 14);
        Check.due("nothing is done", x.server(0, 3), 4);
        Check.due("64", w.version(64, "9P2000"), 0);
        Check.due("answer", w.hex(), "130000006507004000000006003950323030" + "30");
        Check.due("fids", x.server(0, 3), 0);
        Check.due("MSIZE", x.server(0, 5), 64);
        Check.due("the kernel's stays", x.server(0, 4), 256);
        Check.due("65 bytes", w.version(300, new String(new char[52]).replace('\0', 'a')), 14);
        Check.due("64 bytes", w.version(300, new String(new char[51]).replace('\0', 'a')), 0);
        Check.due("unknown", w.text(11), "unknown");
        Check.due("MSIZE", x.server(0, 5), 300);
        Check.due("begins so", w.version(4294967295L, "9P2000.u"), 0);
        Check.due("300 at most", w.number(7, 4), 300);
        Check.due("9P2000", w.text(11), "9P2000");
        Check.due("300 bytes", w.version(300, new String(new char[287]).replace('\0', 'a')), 0);
        Check.due("unknown", w.text(11), "unknown");
        Check.due("301 bytes", w.version(300, new String(new char[288]).replace('\0', 'a')), 14);
        Check.due("shorter", w.version(100, "9P200"), 0);
        Check.due("unknown", w.text(11), "unknown");
        Check.due("other letters", w.version(100, "9p2000"), 0);
        Check.due("unknown", w.text(11), "unknown");
        // the least fid first: 5 removes f and then g can be removed no more than f
        Check.due("version", w.version(300, "9P2000"), 0);
        attached(x);
        make(w, 1, "d", DIR | 511);
        Check.due("walk", w.walk(1, 0xFFFFFFFFL, "d"), 0);
        Check.due("open d with 64", w.open(0xFFFFFFFFL, 64), 0);
        Check.due("walk", w.walk(1, 50, "d"), 0);
        Check.due("create", w.create(50, "f", 511, 64), 0);
        Check.due("files", x.server(0, 0), 3);
        Check.due("version", w.version(300, "9P2000"), 0);
        Check.due("f went, then d", x.server(0, 0), 1);
        Check.due("fids", x.server(0, 3), 0);
        attached(x);
        make(w, 1, "d", DIR | 511);
        Check.due("walk", w.walk(1, 50, "d"), 0);
        Check.due("open d with 64", w.open(50, 64), 0);
        Check.due("walk", w.walk(1, 0xFFFFFFFFL, "d"), 0);
        Check.due("create", w.create(0xFFFFFFFFL, "f", 511, 64), 0);
        Check.due("version", w.version(300, "9P2000"), 0);
        Check.due("d was not empty when it was to go", x.server(0, 0), 2);
    }

    private static void attach() {
        SpaceHouse x = new SpaceHouse();
        Wire w = wire(x);
        Check.due("attach", w.attach(0xFFFFFFFFL, "bob"), 0);
        Check.due("its QID", w.hex(), "14000000690700" + "80" + "00000000" + "0000000000000000");
        Check.due("7 before 14", w.ask(104, Wire.parts().put(-1, 4).put(0, 4).text("x").text("y")), 7);
        Check.due("14 before 15", w.ask(104, Wire.parts().put(1, 4).put(0, 4).text("x").text("y")), 14);
        Check.due("15 before 1", w.ask(104, Wire.parts().put(1, 4).put(-1, 4).text("x").text("y")), 15);
        Check.due("1", w.ask(104, Wire.parts().put(1, 4).put(-1, 4).text("eve").text("y")), 1);
        Check.due("15 of annx", w.attach(1, "annx"), 15);
        Check.due("15 of an", w.attach(1, "an"), 15);
        Check.due("15 of nothing", w.attach(1, ""), 15);
        for (int i = 1; i < 48; i++) {
            Check.due("attach", w.attach(i, "ann"), 0);
        }
        Check.due("fids", x.server(0, 3), 48);
        Check.due("12", w.attach(48, "ann"), 12);
        Check.due("1 before 12", w.ask(104, Wire.parts().put(48, 4).put(-1, 4).text("eve").text("y")), 1);
        Check.due("12 of walk", w.walk(1, 48), 12);
        Check.due("12 before 1", w.walk(1, 48, "x"), 12);
        Check.due("not if newfid is fid", w.walk(1, 1), 0);
        Check.due("the kernel's are others", x.login(0), 0);
    }

    private static void walk() {
        SpaceHouse x = new SpaceHouse();
        Wire w = attached(x);
        make(w, 1, "d", DIR | 511);
        Check.due("walk", w.walk(1, 10, "d"), 0);
        Check.due("create", w.create(10, "e", DIR | 448, 0), 0);
        Check.due("open fid 8", w.walk(10, 11), 8);
        Check.due("8 before 7", w.walk(10, 1), 8);
        Check.due("6", w.walk(77, 1), 6);
        Check.due("7", w.walk(1, 2), 7);
        Check.due("7 before 14", w.walk(1, 2, "1", "2", "3", "4", "5", "6", "7", "8", "9"), 7);
        Check.due("14", w.walk(1, 11, "1", "2", "3", "4", "5", "6", "7", "8", "9"), 14);
        Check.due("1", w.walk(1, 11, "x"), 1);
        Check.due("no fid is made", w.clunk(11), 6);
        Check.due("8 names", w.walk(1, 11, "d", "..", "d", "e", "..", "..", "..", "d"), 0);
        Check.due("8 QIDs", w.number(7, 2), 8);
        Check.due("PATH of d", w.number(9 + 5, 8), 1);
        Check.due("PATH of ROOT", w.number(9 + 13 + 5, 8), 0);
        Check.due("PATH of e", w.number(9 + 39 + 5, 8), 2);
        Check.due("KIND", w.number(9, 1), 128);
        Check.due("VERSION of d", w.number(10, 4), 1);
        Check.due("part of it", w.walk(1, 12, "d", "x", "y"), 0);
        Check.due("QIDs", w.number(7, 2), 1);
        Check.due("bytes", w.number(0, 4), 22);
        Check.due("no fid is made", w.clunk(12), 6);
        Check.due("part of it, with fid itself", w.walk(11, 11, "e", "x"), 0);
        Check.due("QIDs", w.number(7, 2), 1);
        Check.due("it is not moved", w.stat(11), 0);
        Check.due("name", w.text(9 + 41), "d");
        Check.due("with fid itself", w.walk(11, 11, "e"), 0);
        Check.due("it is moved", w.stat(11), 0);
        Check.due("name", w.text(9 + 41), "e");
        Check.due("3 may not execute", w.walk(2, 12, "d", "e", "x"), 0);
        Check.due("QIDs", w.number(7, 2), 2);
        Check.due("at e", w.walk(2, 12, "d", "e"), 0);
        Check.due("3", w.walk(12, 13, "x"), 3);
        Check.due("3 of .., too", w.walk(12, 13, ".."), 3);
        Check.due("the uid may", w.walk(11, 13, ".."), 0);
        Check.due(". is no name", w.walk(1, 14, "."), 1);
        make(w, 1, "f", 511);
        Check.due("f", w.walk(1, 14, "f"), 0);
        Check.due("KIND of a file", w.number(9, 1), 0);
        Check.due("2", w.walk(14, 15, "x"), 2);
        Check.due("2 of ..", w.walk(14, 15, ".."), 2);
        Check.due("no names", w.walk(14, 15), 0);
        Check.due("no QIDs", w.hex(), "090000006f07000000");
        Check.due("the user goes along", w.stat(15), 0);
        Check.due("an entry of all signs", w.walk(1, 16, "F"), 1);
        Check.due("a longer name", w.walk(1, 16, "ff"), 1);
        Check.due("no bytes", w.walk(1, 16, ""), 1);
    }

    private static void open() {
        SpaceHouse x = new SpaceHouse();
        Wire w = attached(x);
        make(w, 1, "f", 0400 | 0020 | 0001);
        Check.due("ann", w.walk(1, 10, "f"), 0);
        Check.due("adm", w.walk(0, 11, "f"), 0);
        Check.due("bob", w.walk(2, 12, "f"), 0);
        Check.due("6", w.open(99, 200), 6);
        Check.due("16 of 4", w.open(10, 4), 16);
        Check.due("16 of 32", w.open(10, 32), 16);
        Check.due("16 of 128", w.open(10, 128), 16);
        Check.due("uid may not write", w.open(10, 1), 3);
        Check.due("uid may not write", w.open(10, 2), 3);
        Check.due("uid may not execute", w.open(10, 3), 3);
        Check.due("uid may not write for 16", w.open(10, 16), 3);
        Check.due("uid may read", w.open(10, 0), 0);
        Check.due("8", w.open(10, 0), 8);
        Check.due("8 before 16", w.open(10, 4), 8);
        Check.due("others may not read", w.open(12, 0), 3);
        Check.due("others may not write", w.open(12, 1), 3);
        Check.due("others may execute", w.open(12, 3), 0);
        Check.due("gid may not read", w.open(11, 2), 3);
        Check.due("gid may write", w.open(11, 1), 0);
        Check.due("ROOT", w.walk(1, 20), 0);
        Check.due("10 of a directory", w.open(20, 1), 10);
        Check.due("10 with 16", w.open(20, 16), 10);
        Check.due("10 with 3", w.open(20, 3), 10);
        Check.due("16 before 10", w.open(20, 33), 16);
        openingRootToRemove(w);
        Check.due("the ROOT stays", x.server(0, 0), 2);
        Check.due("the ROOT without 64", w.open(20, 0), 0);
        Check.due("its QID", w.number(7, 1), 128);
        Check.due("4 behind it", w.number(20, 4), 0);
        Check.due("size", w.number(0, 4), 24);
        Check.due("8 before 3 with 64", w.open(20, 64), 8);
        Check.due("clunk", w.clunk(20), 0);
        emptying(x, w);
        // 64 where the directory may not be written
        make(w, 1, "d", DIR | 511);
        Check.due("d", w.walk(1, 30, "d"), 0);
        Check.due("g", w.create(30, "g", 511, 0), 0);
        Check.due("d", w.walk(1, 31, "d"), 0);
        Check.due("chmod", w.wstat(31, DIR | 0555, -1, ""), 0);
        Check.due("g", w.walk(1, 32, "d", "g"), 0);
        Check.due("3 with 64", w.open(32, 64), 3);
        Check.due("without", w.open(32, 0), 0);
    }

    /** The ROOT has no directory, so there is none that a user may write: adm neither. */
    private static void openingRootToRemove(Wire w) {
        for (int user = 0; user < 4; user++) {
            Check.due("ROOT", w.walk(user, 21), 0);
            Check.due("16 before 3 with 64", w.open(21, 64 + 4), 16);
            Check.due("10 before 3 with 64", w.open(21, 64 + 1), 10);
            Check.due("10 before 3 with 64", w.open(21, 64 + 16), 10);
            Check.due("3 with 64 of the ROOT", w.open(21, 64), 3);
            Check.due("it is not open", w.read(21, 0, 100), 9);
            Check.due("clunk", w.clunk(21), 0);
        }
    }

    private static void emptying(SpaceHouse x, Wire w) {
        make(w, 1, "t", 0666);
        Check.due("t", w.walk(2, 40, "t"), 0);
        Check.due("open", w.open(40, 1), 0);
        Check.due("write", w.write(40, 0, "abc"), 0);
        Check.due("bytes", x.server(0, 1), 3);
        Check.due("t", w.walk(3, 41, "t"), 0);
        Check.due("open with 16", w.open(41, 18), 0);
        Check.due("VERSION", w.number(8, 4), 2);
        Check.due("bytes", x.server(0, 1), 0);
        Check.due("stat", w.stat(41), 0);
        Check.due("LENGTH", w.number(9 + 33, 8), 0);
        Check.due("muid", w.text(9 + 41 + 3 + 5 + 5), "eve");
        Check.due("t", w.walk(3, 42, "t"), 0);
        Check.due("open with 16 again", w.open(42, 16 + 1), 0);
        Check.due("VERSION", w.number(8, 4), 3);
        make(w, 1, "a", GROWS | 0666);
        Check.due("a", w.walk(2, 43, "a"), 0);
        Check.due("KIND", w.number(9, 1), 64);
        Check.due("open", w.open(43, 1), 0);
        Check.due("write", w.write(43, 9, "abc"), 0);
        Check.due("a", w.walk(3, 44, "a"), 0);
        Check.due("open with 16", w.open(44, 17), 0);
        Check.due("VERSION", w.number(8, 4), 1);
        Check.due("it has its bytes", x.server(0, 1), 3);
    }

    private static void create() {
        SpaceHouse x = new SpaceHouse();
        Wire w = attached(x);
        make(w, 1, "f", 0666);
        make(w, 1, "r", DIR | 0555);
        Check.due("6", w.create(9, "/", 0, 255), 6);
        Check.due("f", w.walk(1, 10, "f"), 0);
        Check.due("2", w.create(10, "/", 0, 255), 2);
        Check.due("open", w.open(10, 0), 0);
        Check.due("8 before 2", w.create(10, "/", 0, 255), 8);
        String[] bad = {"", ".", "..", "a/b", "a b", "\177", "\200", "1234567890123", "a\n"};
        for (String name : bad) {
            Check.due("5 of " + name, w.create(1, name, 512, 255), 5);
        }
        Check.due("4", w.create(1, "f", 512, 255), 4);
        Check.due("r", w.walk(1, 11, "r"), 0);
        Check.due("5 before 3", w.create(11, "..", 512, 255), 5);
        Check.due("3", w.create(11, "x", 512, 255), 3);
        Check.due("16 of 512", w.create(1, "x", 512, 0), 16);
        Check.due("16 of 2^29", w.create(1, "x", 1L << 29, 0), 16);
        Check.due("16 of both", w.create(1, "x", DIR | GROWS, 0), 16);
        Check.due("16 of mode 4", w.create(1, "x", 0, 4), 16);
        Check.due("16 of mode 16", w.create(1, "x", 0, 16), 16);
        Check.due("16 of mode 17", w.create(1, "x", 0, 17), 16);
        Check.due("16 of mode 128", w.create(1, "x", 0, 128), 16);
        Check.due("16 before 10", w.create(1, "x", DIR, 20), 16);
        Check.due("10", w.create(1, "x", DIR, 1), 10);
        Check.due("nothing was made", x.server(0, 0), 3);
        Check.due("names of three dots", w.create(1, "...", 0666, 66), 0);
        Check.due("its QID", w.hex(), "18000000730700" + "00" + "00000000" + "0300000000000000"
            + "00000000");
        Check.due("the fid is at it, open", w.write(1, 0, "abc"), 0);
        Check.due("in mode 2", w.read(1, 0, 9), 0);
        Check.due("its bytes", w.told(), "abc");
        Check.due("clunk", w.clunk(1), 0);
        Check.due("it was removed", x.server(0, 0), 3);
        Check.due("its bytes, too", x.server(0, 1), 0);
        Check.due("12 signs", w.create(2, "~!@#$%^&*()_", GROWS | 0600, 1), 0);
        Check.due("KIND", w.number(7, 1), 64);
        Check.due("PATHS go on", w.number(12, 8), 4);
        Check.due("VERSION of the ROOT", w.stat(3), 0);
        Check.due("it is", w.number(18, 4), 5);
        Check.due("muid", w.text(9 + 41 + 3 + 10), "bob");
    }

    /** What a new file gets of perm. */
    private static void createdModes() {
        SpaceHouse x = new SpaceHouse();
        Wire w = attached(x);
        make(w, 1, "d", DIR | 0750);
        Check.due("d", w.walk(1, 10, "d"), 0);
        Check.due("g", w.create(10, "g", 0777, 0), 0);
        Check.due("stat", w.stat(10), 0);
        Check.due("execute is all perm's", w.number(30, 4), 0751);
        Check.due("uid", w.text(9 + 41 + 3), "ann");
        Check.due("gid is the directory's", w.text(9 + 41 + 8), "adm");
        Check.due("muid", w.text(9 + 41 + 13), "ann");
        Check.due("VERSION", w.number(18, 4), 0);
        Check.due("d", w.walk(1, 11, "d"), 0);
        Check.due("h", w.create(11, "h", DIR | 0777, 0), 0);
        Check.due("stat", w.stat(11), 0);
        Check.due("not of a directory", w.number(30, 4), DIR | 0750);
        Check.due("d", w.walk(1, 12, "d"), 0);
        Check.due("i", w.create(12, "i", GROWS | 0066, 0), 0);
        Check.due("stat", w.stat(12), 0);
        Check.due("2^30 stays", w.number(30, 4), GROWS | 0040);
    }

    private static void read() {
        SpaceHouse x = new SpaceHouse();
        Wire w = attached(x);
        make(w, 1, "f", 0777);
        Check.due("6", w.read(99, 0, 999), 6);
        Check.due("f", w.walk(1, 10, "f"), 0);
        Check.due("9 not open", w.read(10, 0, 999), 9);
        Check.due("open", w.open(10, 1), 0);
        Check.due("9 open to write", w.read(10, 0, 999), 9);
        Check.due("write", w.write(10, 0, "0123456789"), 0);
        Check.due("f", w.walk(1, 11, "f"), 0);
        Check.due("open", w.open(11, 3), 0);
        Check.due("all", w.read(11, 0, 289), 0);
        Check.due("bytes", w.told(), "0123456789");
        Check.due("count", w.number(7, 4), 10);
        Check.due("14 above MSIZE - 11", w.read(11, 0, 290), 14);
        Check.due("14 of 2^32 - 1", w.read(11, 0, 0xFFFFFFFFL), 14);
        Check.due("some", w.read(11, 3, 4), 0);
        Check.due("bytes", w.told(), "3456");
        Check.due("at the end", w.read(11, 10, 4), 0);
        Check.due("bytes", w.told(), "");
        Check.due("behind the end", w.read(11, 1L << 63, 4), 0);
        Check.due("bytes", w.told(), "");
        Check.due("behind the end", w.read(11, 0x100000003L, 4), 0);
        Check.due("bytes", w.told(), "");
        Check.due("none", w.read(11, 0, 0), 0);
        Check.due("bytes", w.hex(), "0b00000075070000000000");
        Check.due("smaller MSIZE", w.version(64, "9P2000"), 0);
        attached(x);
        Check.due("f", w.walk(1, 11, "f"), 0);
        Check.due("open", w.open(11, 0), 0);
        Check.due("14", w.read(11, 0, 54), 14);
        Check.due("all", w.read(11, 0, 53), 0);
        Check.due("1 before 14", w.walk(1, 12, "f"), 0);
        Check.due("remove", w.remove(12), 0);
        Check.due("1 before 14", w.read(11, 0, 54), 1);
    }

    private static void readDirectory() {
        SpaceHouse x = new SpaceHouse();
        Wire w = attached(x);
        String[] names = {"a", "bb", "ccc", "d"};
        for (String name : names) {
            make(w, 1, name, 0666);
        }
        Check.due("ROOT", w.walk(1, 10), 0);
        Check.due("open", w.open(10, 0), 0);
        Check.due("too few bytes", w.read(10, 0, 58), 0);
        Check.due("none", w.number(7, 4), 0);
        Check.due("just one", w.read(10, 0, 59), 0);
        Check.due("one", w.number(7, 4), 59);
        Check.due("a STAT", w.hex().substring(22), "3900" + "0000" + "00000000"
            + "00" + "00000000" + "0100000000000000" + "b6010000" + "0000000000000000"
            + "0000000000000000" + "0100" + "61" + "0300616e6e" + "030061646d" + "0300616e6e");
        Check.due("13", w.read(10, 58, 100), 13);
        Check.due("goes on", w.read(10, 59, 100), 0);
        Check.due("one", w.text(11 + 41), "bb");
        Check.due("13 where it was", w.read(10, 59, 100), 13);
        Check.due("too few", w.read(10, 119, 60), 0);
        Check.due("it is still there", w.read(10, 119, 61 + 59), 0);
        Check.due("two", w.number(7, 4), 120);
        Check.due("first", w.text(11 + 41), "ccc");
        Check.due("second", w.text(11 + 61 + 41), "d");
        Check.due("the end", w.read(10, 239, 289), 0);
        Check.due("none", w.number(7, 4), 0);
        Check.due("anew", w.read(10, 0, 289), 0);
        Check.due("all four", w.number(7, 4), 239);
        Check.due("13 of 2^63", w.read(10, 1L << 63, 289), 13);
        Check.due("anew", w.read(10, 0, 119), 0);
        Check.due("two", w.number(7, 4), 119);
        Check.due("a goes", w.walk(1, 11, "a"), 0);
        Check.due("clunk", w.clunk(10), 0);
        Check.due("a fid of the same number", w.walk(1, 10), 0);
        Check.due("open", w.open(10, 0), 0);
        Check.due("nothing was read by it", w.read(10, 119, 289), 13);
        Check.due("all", w.read(10, 0, 289), 0);
        Check.due("anew", w.read(10, 0, 59), 0);
        Check.due("the second", w.read(10, 59, 60), 0);
        Check.due("it is bb", w.text(11 + 41), "bb");
        Check.due("anew", w.read(10, 0, 119), 0);
        Check.due("two", w.number(7, 4), 119);
        Check.due("remove", w.remove(11), 0);
        Check.due("by how many were told", w.read(10, 119, 289), 0);
        Check.due("one", w.number(7, 4), 59);
        Check.due("it is d", w.text(11 + 41), "d");
    }

    private static void write() {
        SpaceHouse x = new SpaceHouse();
        Wire w = attached(x);
        make(w, 1, "f", 0777);
        Check.due("6", w.write(99, 9, "a"), 6);
        Check.due("f", w.walk(2, 10, "f"), 0);
        Check.due("9 not open", w.write(10, 9, "a"), 9);
        Check.due("open", w.open(10, 0), 0);
        Check.due("9 open to read", w.write(10, 9, "a"), 9);
        Check.due("f", w.walk(2, 11, "f"), 0);
        Check.due("open", w.open(11, 3), 0);
        Check.due("9 open to execute", w.write(11, 9, "a"), 9);
        Check.due("f", w.walk(2, 12, "f"), 0);
        Check.due("open", w.open(12, 2), 0);
        Check.due("13", w.write(12, 1, "a"), 13);
        Check.due("13 of 2^63", w.write(12, 1L << 63, ""), 13);
        Check.due("none", w.write(12, 0, ""), 0);
        Check.due("VERSION", version(w, 12), 0);
        Check.due("muid", muid(w, 12), "ann");
        Check.due("four", w.write(12, 0, "abcd"), 0);
        Check.due("count", w.hex(), "0b00000077070004000000");
        Check.due("VERSION", version(w, 12), 1);
        Check.due("muid", muid(w, 12), "bob");
        Check.due("over", w.write(12, 2, "xyz"), 0);
        Check.due("at the end", w.write(12, 5, "e"), 0);
        Check.due("none at the end", w.write(12, 6, ""), 0);
        Check.due("read", w.read(12, 0, 99), 0);
        Check.due("bytes", w.told(), "abxyze");
        Check.due("VERSION", version(w, 12), 3);
        make(w, 1, "a", GROWS | 0777);
        Check.due("a", w.walk(2, 13, "a"), 0);
        Check.due("open", w.open(13, 2), 0);
        Check.due("offset does not count", w.write(13, 77, "abc"), 0);
        Check.due("nor 0", w.write(13, 0, "def"), 0);
        Check.due("read", w.read(13, 0, 99), 0);
        Check.due("bytes", w.told(), "abcdef");
        Check.due("bytes of the TREE", x.server(0, 1), 12);
        Check.due("of the other TREE", x.server(1, 1), 0);
    }

    private static long version(Wire w, long fid) {
        w.stat(fid);
        return w.number(18, 4);
    }

    private static String muid(Wire w, long fid) {
        w.stat(fid);
        int name = 9 + 41;
        return w.text(name + 2 + (int) w.number(name, 2) + 10);
    }

    private static void clunkAndRemove() {
        SpaceHouse x = new SpaceHouse();
        Wire w = attached(x);
        make(w, 1, "d", DIR | 0755);
        Check.due("d", w.walk(1, 10, "d"), 0);
        Check.due("f", w.create(10, "f", 0666, 0), 0);
        Check.due("6", w.clunk(99), 6);
        Check.due("6", w.remove(99), 6);
        Check.due("3 the ROOT", w.remove(0), 3);
        Check.due("the fid went", w.remove(0), 6);
        Check.due("d", w.walk(2, 11, "d"), 0);
        Check.due("the ROOT may be written by others: 11", w.remove(11), 11);
        Check.due("the fid went", w.stat(11), 6);
        Check.due("d/f", w.walk(2, 12, "d", "f"), 0);
        Check.due("3 its directory", w.remove(12), 3);
        Check.due("the fid went", w.stat(12), 6);
        Check.due("ann may", w.remove(10), 0);
        Check.due("d", w.walk(2, 11, "d"), 0);
        Check.due("VERSION of d", version(w, 11), 2);
        Check.due("now it is empty", w.remove(11), 0);
        Check.due("VERSION of the ROOT", version(w, 1), 2);
        Check.due("muid", muid(w, 1), "bob");
        Check.due("the ROOT is left", x.server(0, 0), 1);
        make(w, 1, "g", 0666);
        Check.due("g", w.walk(1, 13, "g"), 0);
        Check.due("open with 64", w.open(13, 64), 0);
        Check.due("clunk", w.clunk(13), 0);
        Check.due("it went", x.server(0, 0), 1);
        Check.due("VERSION of the ROOT", version(w, 1), 4);
        make(w, 1, "g", 0666);
        Check.due("g", w.walk(1, 13, "g"), 0);
        Check.due("clunk of one that is not open", w.clunk(13), 0);
        Check.due("g", w.walk(1, 13, "g"), 0);
        Check.due("open without 64", w.open(13, 0), 0);
        Check.due("clunk", w.clunk(13), 0);
        Check.due("it stays", x.server(0, 0), 2);
        Check.due("g", w.walk(1, 13, "g"), 0);
        Check.due("remove", w.remove(13), 0);
        make(w, 1, "g", 0666);
        Check.due("g", w.walk(1, 13, "g"), 0);
        Check.due("d", w.create(2, "j", 0666, 64), 0);
        Check.due("it goes", w.clunk(2), 0);
        Check.due("g, by the fid's place", w.walk(13, 2), 0);
        Check.due("clunk of one that is not open", w.clunk(2), 0);
        Check.due("g stays", x.server(0, 0), 2);
        Check.due("remove", w.remove(13), 0);
        Check.due("bob", w.attach(2, "bob"), 0);
        // where it may not be removed any more, clunk is done all the same
        make(w, 1, "h", 0666);
        Check.due("h", w.walk(2, 14, "h"), 0);
        Check.due("open with 64", w.open(14, 65), 0);
        Check.due("attach adm", w.attach(0, "adm"), 0);
        Check.due("chmod of the ROOT", w.wstat(0, DIR | 0755, -1, ""), 0);
        Check.due("clunk", w.clunk(14), 0);
        Check.due("it stayed", x.server(0, 0), 2);
        Check.due("the fid went", w.clunk(14), 6);
    }

    private static void gone() {
        SpaceHouse x = new SpaceHouse();
        Wire w = attached(x);
        make(w, 1, "f", 0666);
        Check.due("login", x.login(1), 0);
        Check.line(x, 0, "bind f f", 0);
        for (int i = 10; i < 16; i++) {
            Check.due("f", w.walk(1, i, "f"), 0);
        }
        Check.due("open", w.open(10, 2), 0);
        Check.due("open with 64", w.open(15, 64), 0);
        Check.due("remove", w.remove(11), 0);
        Check.due("1 of walk", w.walk(12, 20), 1);
        Check.due("1 of open", w.open(12, 255), 1);
        Check.due("1 of create", w.create(12, "", 512, 255), 1);
        Check.due("1 of read", w.read(10, 0, 999), 1);
        Check.due("9 before 1", w.read(12, 0, 999), 9);
        Check.due("1 of write", w.write(10, 9, "a"), 1);
        Check.due("9 before 1", w.write(12, 9, "a"), 9);
        Check.due("1 of stat", w.stat(12), 1);
        Check.due("1 of wstat", w.wstat(12, Wire.stat(0, 0, 0, 0, 0, 0, "/", "a", "b", "c")), 1);
        Check.due("1 of remove", w.remove(12), 1);
        Check.due("but the fid went", w.clunk(12), 6);
        Check.due("clunk is done", w.clunk(10), 0);
        Check.due("with 64, too", w.clunk(15), 0);
        Check.due("one of the same name", w.create(1, "f", 0666, 0), 0);
        Check.due("it stays gone", w.stat(13), 1);
        Check.due("the kernel's fid is gone, too", x.member(0, 0, 0, 1), 2);
        Check.due("and where it was", x.fid(0, 2, 0), 1);
        Check.due("files", x.server(0, 0), 2);
    }

    private static void stat() {
        SpaceHouse x = new SpaceHouse();
        Wire w = attached(x);
        Check.due("6", w.stat(9), 6);
        Check.due("ROOT", w.stat(1), 0);
        Check.due("its STAT", w.hex(), "440000007d0700" + "3b00" + "3900" + "0000" + "00000000"
            + "80" + "00000000" + "0000000000000000" + "ff010080" + "0000000000000000"
            + "0000000000000000" + "0100" + "2f" + "030061646d" + "030061646d" + "030061646d");
        make(w, 3, "abcdefghijkl", GROWS | 0640);
        Check.due("walk", w.walk(2, 10, "abcdefghijkl"), 0);
        Check.due("stat", w.stat(10), 0);
        Check.due("its STAT", w.hex(), "4f0000007d0700" + "4600" + "4400" + "0000" + "00000000"
            + "40" + "00000000" + "0100000000000000" + "a0010040" + "0000000000000000"
            + "0000000000000000" + "0c00" + "6162636465666768696a6b6c"
            + "0300657665" + "030061646d" + "0300657665");
    }

    private static void wstat() {
        SpaceHouse x = new SpaceHouse();
        Wire w = attached(x);
        make(w, 1, "f", 0644);
        make(w, 1, "g", 0666);
        Check.due("6", w.wstat(9, -1, -1, ""), 6);
        Check.due("f", w.walk(1, 10, "f"), 0);
        Check.due("nothing told", w.wstat(10, -1, -1, ""), 0);
        Check.due("3 type", w.wstat(10, Wire.stat(0, -1, -1, -1, -1, -1, "/", "", "", "")), 3);
        Check.due("3 dev", w.wstat(10, Wire.stat(-1, 0, -1, -1, -1, -1, "/", "", "", "")), 3);
        Check.due("3 QID", w.wstat(10, Wire.stat(-1, -1, 0, -1, -1, -1, "/", "", "", "")), 3);
        Check.due("3 times", w.wstat(10, Wire.stat(-1, -1, -1, -1, 0, -1, "/", "", "", "")), 3);
        Check.due("3 uid", w.wstat(10, Wire.stat(-1, -1, -1, -1, -1, -1, "/", "ann", "", "")), 3);
        Check.due("3 gid", w.wstat(10, Wire.stat(-1, -1, -1, -1, -1, -1, "/", "", "ann", "")), 3);
        Check.due("3 muid", w.wstat(10, Wire.stat(-1, -1, -1, -1, -1, -1, "/", "", "", "ann")), 3);
        Check.due("3 name of the ROOT", w.wstat(1, -1, -1, "/"), 3);
        Check.due("5", w.wstat(10, -1, -1, "a/b"), 5);
        Check.due("5 of 13", w.wstat(10, -1, -1, "1234567890123"), 5);
        Check.due("4", w.wstat(10, -1, -1, "g"), 4);
        Check.due("its own name", w.wstat(10, -1, -1, "f"), 0);
        Check.due("muid", muid(w, 10), "ann");
        Check.due("f of bob", w.walk(2, 11, "f"), 0);
        Check.due("the ROOT may be written", w.wstat(11, -1, -1, "F"), 0);
        Check.due("muid", muid(w, 11), "bob");
        Check.due("VERSION", version(w, 11), 0);
        Check.due("VERSION of the ROOT", version(w, 1), 2);
        Check.due("3 LENGTH", w.wstat(11, -1, 3, ""), 3);
        Check.due("3 LENGTH before 12", w.wstat(11, -1, 601, ""), 3);
        Check.due("name before LENGTH", w.wstat(11, -1, 3, "g"), 4);
        Check.due("10 LENGTH", w.wstat(1, -1, 0, ""), 10);
        Check.due("12", w.wstat(10, -1, 601, ""), 12);
        Check.due("12 of 2^63", w.wstat(10, -1, 1L << 63, ""), 12);
        Check.due("12 of 2^63 - 1", w.wstat(10, -1, Long.MAX_VALUE, ""), 12);
        Check.due("600", w.wstat(10, -1, 600, ""), 0);
        Check.due("VERSION", version(w, 10), 1);
        Check.due("bytes", x.server(0, 1), 600);
        Check.due("3", w.wstat(10, -1, 3, ""), 0);
        Check.due("VERSION", version(w, 10), 2);
        Check.due("the same", w.wstat(10, -1, 3, ""), 0);
        Check.due("VERSION", version(w, 10), 3);
        Check.due("MODE 3 not its uid", w.wstat(11, 0777, -1, ""), 3);
        Check.due("MODE 16", w.wstat(10, DIR | 0777, -1, ""), 16);
        Check.due("MODE 16", w.wstat(10, 01777, -1, ""), 16);
        Check.due("3 before 16", w.wstat(11, 01777, -1, ""), 3);
        Check.due("all is asked before any is done", w.wstat(10, 01777, 5, "new"), 16);
        Check.due("VERSION", version(w, 10), 3);
        Check.due("all three", w.wstat(10, GROWS | 0606, 5, "new"), 0);
        Check.due("stat", w.stat(10), 0);
        Check.due("name", w.text(50), "new");
        Check.due("MODE", w.number(30, 4), GROWS | 0606);
        Check.due("LENGTH", w.number(42, 8), 5);
        Check.due("KIND", w.number(17, 1), 64);
        Check.due("2^30 back", w.wstat(10, 0606, -1, ""), 0);
        Check.due("VERSION", version(w, 10), 4);
        make(w, 1, "d", DIR | 0755);
        Check.due("d", w.walk(1, 12, "d"), 0);
        Check.due("16 2^30 of a directory", w.wstat(12, DIR | GROWS, -1, ""), 16);
        Check.due("16 not a directory", w.wstat(12, 0755, -1, ""), 16);
        Check.due("nine bits", w.wstat(12, DIR | 0500, -1, ""), 0);
        zeroes(w);
        Check.due("e", w.walk(1, 13, "d"), 0);
        Check.due("entry", w.create(13, "e", 0666, 0), 3);
        Check.due("3 its directory", wstatIn(w), 3);
    }

    /** What came by LENGTH is 0, also where other bytes were before. */
    private static void zeroes(Wire w) {
        Check.due("g", w.walk(1, 20, "g"), 0);
        Check.due("open", w.open(20, 2), 0);
        Check.due("write", w.write(20, 0, "abcdef"), 0);
        Check.due("shorter", w.wstat(20, -1, 2, ""), 0);
        Check.due("longer", w.wstat(20, -1, 5, ""), 0);
        Check.due("read", w.read(20, 0, 99), 0);
        Check.due("bytes", w.told(), "ab\0\0\0");
        Check.due("write behind", w.write(20, 5, "x"), 0);
        Check.due("read", w.read(20, 0, 99), 0);
        Check.due("bytes", w.told(), "ab\0\0\0x");
    }

    private static int wstatIn(Wire w) {
        w.walk(1, 30, "d");
        w.wstat(30, DIR | 0755, -1, "");
        w.create(30, "e", 0666, 0);
        w.walk(2, 31, "d", "e");
        return w.wstat(31, -1, -1, "E");
    }

    private static void limits() {
        SpaceHouse x = new SpaceHouse();
        Wire w = attached(x);
        for (int i = 1; i < 64; i++) {
            make(w, 1, "f" + i, 0666);
        }
        Check.due("files", x.server(0, 0), 64);
        Check.due("12", w.create(1, "x", 0666, 0), 12);
        Check.due("10 before 12", w.create(1, "x", DIR, 1), 10);
        Check.due("the other TREE", x.server(1, 0), 1);
        for (int i = 1; i <= 13; i++) {
            Check.due("f", w.walk(1, 10, "f" + i), 0);
            Check.due("LENGTH", w.wstat(10, -1, 600, ""), 0);
            Check.due("clunk", w.clunk(10), 0);
        }
        Check.due("bytes", x.server(0, 1), 7800);
        Check.due("f14", w.walk(1, 10, "f14"), 0);
        Check.due("12", w.wstat(10, -1, 393, ""), 12);
        Check.due("392", w.wstat(10, -1, 392, ""), 0);
        Check.due("open", w.open(10, 1), 0);
        Check.due("12", w.write(10, 392, "a"), 12);
        Check.due("over is no more", w.write(10, 391, "a"), 0);
        Check.due("13 before 12", w.write(10, 393, "a"), 13);
        Check.due("none", w.write(10, 392, ""), 0);
        Check.due("f1", w.walk(1, 11, "f1"), 0);
        Check.due("open", w.open(11, 1), 0);
        Check.due("12 more than 600", w.write(11, 600, "a"), 12);
        Check.due("12 more than 600", w.write(11, 599, "ab"), 12);
        Check.due("600", w.write(11, 598, "ab"), 0);
        Check.due("f2", w.walk(1, 12, "f2"), 0);
        Check.due("remove", w.remove(12), 0);
        Check.due("bytes", x.server(0, 1), 7592);
        Check.due("PATHS go on", w.create(1, "x", 0666, 1), 0);
        Check.due("PATH", w.number(12, 8), 64);
        Check.due("a new file has no bytes", w.stat(1), 0);
        Check.due("LENGTH", w.number(42, 8), 0);
        Check.due("one byte", w.write(1, 0, "z"), 0);
        Check.due("bytes", x.server(0, 1), 7593);
    }
}
