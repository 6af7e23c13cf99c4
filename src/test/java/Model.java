import java.util.ArrayList;
import java.util.Arrays;
import java.util.HashMap;
import java.util.List;
import java.util.Map;
import java.util.TreeMap;

/**
 * The document once more, written apart from the class and in another way (exceptions, recursion,
 * texts as messages, no limits of room), so that random runs of both can be laid side by side.
 */
final class Model {
    static final String[] USERS = {"adm", "ann", "bob", "eve"};
    static final String[] NAMES = {"", "no such file", "not a directory", "permission denied",
        "file exists", "bad name", "unknown fid", "fid in use", "fid is open", "fid is not open",
        "is a directory", "not empty", "no room", "bad offset", "bad message", "unknown user",
        "bad mode"};

    static final class Err extends RuntimeException {
        private static final long serialVersionUID = 1;
        final int n;

        Err(int number) {
            super("error " + number, null, false, false);
            n = number;
        }
    }

    // ---------------------------------------------------------------- messages as texts

    static String num(long v, int n) {
        StringBuilder s = new StringBuilder();
        for (int i = 0; i < n; i++) {
            s.append((char) (v >>> 8 * i & 255));
        }
        return s.toString();
    }

    static String str(String s) {
        return num(s.length(), 2) + s;
    }

    static String msg(int type, int tag, String body) {
        return num(body.length() + 7, 4) + num(type, 1) + num(tag, 2) + body;
    }

    /** Takes parts off a text; 14 where there are too few bytes. */
    static final class In {
        final String s;
        int at = 0;

        In(String text) {
            s = text;
        }

        long num(int n) {
            if (at + n > s.length()) {
                throw new Err(14);
            }
            long v = 0;
            for (int i = n - 1; i >= 0; i--) {
                v = v << 8 | s.charAt(at + i);
            }
            at += n;
            return v;
        }

        String raw(long n) {
            if (n > s.length() - at) {
                throw new Err(14);
            }
            at += (int) n;
            return s.substring(at - (int) n, at);
        }

        String str() {
            return raw(num(2));
        }

        void end() {
            if (at != s.length()) {
                throw new Err(14);
            }
        }
    }

    // ---------------------------------------------------------------- servers

    static final class File {
        String name;
        File dir;
        List<File> entries = new ArrayList<>();
        long path;
        int version;
        long mode;
        int uid;
        int gid;
        int muid;
        StringBuilder bytes = new StringBuilder();
        boolean gone;
        Proc proc;

        boolean isDir() {
            return (mode >> 31 & 1) == 1;
        }

        boolean grows() {
            return (mode >> 30 & 1) == 1;
        }

        boolean may(int user, int what) {
            long bits = user == uid ? mode / 64 : user == gid ? mode / 8 : mode;
            return (bits & what) == what;
        }

        String qid() {
            return num(isDir() ? 128 : grows() ? 64 : 0, 1) + num(version, 4) + num(path, 8);
        }

        String stat() {
            String s = num(0, 2) + num(0, 4) + qid() + num(mode, 4) + num(0, 4) + num(0, 4)
                + num(bytes.length(), 8) + str(name) + str(USERS[uid]) + str(USERS[gid])
                + str(USERS[muid]);
            return num(s.length(), 2) + s;
        }
    }

    static final class Fid {
        File file;
        int user;
        int mode = -1;
        boolean orclose;
        long end = 0;
        int told = 0;
    }

    static final class Conn {
        final TreeMap<Long, Fid> fids = new TreeMap<>();
        long msize = 300;
    }

    final class Srv {
        final int no;
        final File root = new File();
        final Conn[] conns = {new Conn(), new Conn()};
        long last = 0;

        Srv(int number) {
            no = number;
            root.name = "/";
            root.mode = (1L << 31) + (no == 2 ? 365 : 511);
            if (no == 2) {
                File cons = child(root, "cons", 1, 438, 0);
                cons.bytes = new StringBuilder();
            }
        }

        File child(File dir, String name, long path, long mode, int user) {
            File f = new File();
            f.name = name;
            f.dir = dir;
            f.path = path;
            f.mode = mode;
            f.uid = user;
            f.gid = user;
            f.muid = user;
            int i = 0;
            while (i < dir.entries.size() && dir.entries.get(i).path < path) {
                i++;
            }
            dir.entries.add(i, f);
            return f;
        }

        int files(File f) {
            int n = 1;
            for (File e : f.entries) {
                n += files(e);
            }
            return n;
        }

        int bytes(File f) {
            int n = f.bytes.length();
            for (File e : f.entries) {
                n += bytes(e);
            }
            return n;
        }

        /** The answer, or null if there is none. */
        String handle(int c, String m) {
            if (m.length() < 7 || new In(m).num(4) != m.length()) {
                return null;
            }
            int type = m.charAt(4);
            int tag = (int) new In(m.substring(5)).num(2);
            try {
                if (m.length() > conns[c].msize) {
                    throw new Err(14);
                }
                return msg(type + 1, tag, act(conns[c], type, new In(m.substring(7))));
            } catch (Err e) {
                return msg(107, tag, str(NAMES[e.n]));
            }
        }

        String act(Conn c, int type, In in) {
            switch (type) {
                case 100: {
                    long size = in.num(4);
                    String v = in.str();
                    in.end();
                    if (size < 64) {
                        throw new Err(14);
                    }
                    for (Long k : new ArrayList<>(c.fids.keySet())) {
                        clunk(c.fids.remove(k));
                    }
                    c.msize = Math.min(size, 300);
                    return num(c.msize, 4) + str(v.startsWith("9P2000") ? "9P2000" : "unknown");
                }
                case 104: {
                    long fid = in.num(4);
                    long afid = in.num(4);
                    String uname = in.str();
                    String aname = in.str();
                    in.end();
                    if (c.fids.containsKey(fid)) {
                        throw new Err(7);
                    }
                    if (afid != 0xFFFFFFFFL) {
                        throw new Err(14);
                    }
                    int user = Arrays.asList(USERS).indexOf(uname);
                    if (user < 0) {
                        throw new Err(15);
                    }
                    if (!aname.isEmpty()) {
                        throw new Err(1);
                    }
                    if (c.fids.size() == 48) {
                        throw new Err(12);
                    }
                    Fid f = new Fid();
                    f.file = root;
                    f.user = user;
                    c.fids.put(fid, f);
                    return root.qid();
                }
                case 108:
                    in.num(2);
                    in.end();
                    return "";
                case 110:
                    return walk(c, in);
                case 112: {
                    long fid = in.num(4);
                    int mode = (int) in.num(1);
                    in.end();
                    return open(unopened(c, fid), mode);
                }
                case 114: {
                    long fid = in.num(4);
                    String name = in.str();
                    long perm = in.num(4);
                    int mode = (int) in.num(1);
                    in.end();
                    return create(unopened(c, fid), name, perm, mode);
                }
                case 116: {
                    long fid = in.num(4);
                    long offset = in.num(8);
                    long count = in.num(4);
                    in.end();
                    String data = read(c, fid(c, fid), offset, count);
                    return num(data.length(), 4) + data;
                }
                case 118: {
                    long fid = in.num(4);
                    long offset = in.num(8);
                    String data = in.raw(in.num(4));
                    in.end();
                    write(fid(c, fid), offset, data);
                    return num(data.length(), 4);
                }
                case 120: {
                    long fid = in.num(4);
                    in.end();
                    fid(c, fid);
                    clunk(c.fids.remove(fid));
                    return "";
                }
                case 122: {
                    long fid = in.num(4);
                    in.end();
                    fid(c, fid);
                    remove(c.fids.remove(fid));
                    return "";
                }
                case 124: {
                    long fid = in.num(4);
                    in.end();
                    String s = here(fid(c, fid)).stat();
                    return num(s.length(), 2) + s;
                }
                case 126: {
                    long fid = in.num(4);
                    In st = new In(in.str());
                    in.end();
                    if (st.num(2) != st.s.length() - 2) {
                        throw new Err(14);
                    }
                    wstat(c, fid, st);
                    return "";
                }
                default:
                    throw new Err(14);
            }
        }

        Fid fid(Conn c, long n) {
            Fid f = c.fids.get(n);
            if (f == null) {
                throw new Err(6);
            }
            return f;
        }

        Fid unopened(Conn c, long n) {
            Fid f = fid(c, n);
            if (f.mode >= 0) {
                throw new Err(8);
            }
            here(f);
            return f;
        }

        File here(Fid f) {
            if (f.file.gone) {
                throw new Err(1);
            }
            return f.file;
        }

        String walk(Conn c, In in) {
            long fid = in.num(4);
            long newfid = in.num(4);
            int n = (int) in.num(2);
            List<String> names = new ArrayList<>();
            for (int i = 0; i < n; i++) {
                names.add(in.str());
            }
            in.end();
            Fid f = fid(c, fid);
            if (f.mode >= 0) {
                throw new Err(8);
            }
            if (newfid != fid && c.fids.containsKey(newfid)) {
                throw new Err(7);
            }
            if (n > 8) {
                throw new Err(14);
            }
            if (newfid != fid && c.fids.size() == 48) {
                throw new Err(12);
            }
            File at = here(f);
            StringBuilder qids = new StringBuilder();
            int done = 0;
            try {
                for (String name : names) {
                    if (!at.isDir()) {
                        throw new Err(2);
                    }
                    if (!at.may(f.user, 1)) {
                        throw new Err(3);
                    }
                    at = name.equals("..") ? at.dir == null ? at : at.dir : find(at, name);
                    if (at == null) {
                        throw new Err(1);
                    }
                    qids.append(at.qid());
                    done++;
                }
            } catch (Err e) {
                if (done == 0) {
                    throw e;
                }
                return num(done, 2) + qids;
            }
            Fid g = new Fid();
            g.file = at;
            g.user = f.user;
            c.fids.put(newfid, g);
            return num(done, 2) + qids;
        }

        File find(File dir, String name) {
            for (File e : dir.entries) {
                if (e.name.equals(name)) {
                    return e;
                }
            }
            return null;
        }

        String open(Fid f, int mode) {
            File x = f.file;
            int low = mode & ~16 & ~64;
            if (low > 3) {
                throw new Err(16);
            }
            if (x.isDir() && (mode & ~64) != 0) {
                throw new Err(10);
            }
            boolean ok = low == 0 ? x.may(f.user, 4) : low == 1 ? x.may(f.user, 2)
                : low == 2 ? x.may(f.user, 4) && x.may(f.user, 2) : x.may(f.user, 1);
            if (!ok || (mode & 16) != 0 && !x.may(f.user, 2)) {
                throw new Err(3);
            }
            if ((mode & 64) != 0 && (no == 2 || x.dir == null || !x.dir.may(f.user, 2))) {
                throw new Err(3);
            }
            if ((mode & 16) != 0 && no != 2 && !x.grows()) {
                x.bytes.setLength(0);
                x.version++;
                x.muid = f.user;
            }
            f.mode = low;
            f.orclose = (mode & 64) != 0;
            return x.qid() + num(0, 4);
        }

        boolean goodName(String name) {
            if (name.length() < 1 || name.length() > 12 || name.equals(".") || name.equals("..")) {
                return false;
            }
            for (char ch : name.toCharArray()) {
                if (ch < 33 || ch > 126 || ch == '/') {
                    return false;
                }
            }
            return true;
        }

        String create(Fid f, String name, long perm, int mode) {
            File d = f.file;
            if (!d.isDir()) {
                throw new Err(2);
            }
            if (no == 2) {
                throw new Err(3);
            }
            if (!goodName(name)) {
                throw new Err(5);
            }
            if (find(d, name) != null) {
                throw new Err(4);
            }
            if (!d.may(f.user, 2)) {
                throw new Err(3);
            }
            boolean dir = (perm >> 31 & 1) == 1;
            boolean grows = (perm >> 30 & 1) == 1;
            int low = mode & ~64;
            if ((perm & ~(511L | 1L << 30 | 1L << 31)) != 0 || dir && grows || low > 3) {
                throw new Err(16);
            }
            if (dir && low != 0) {
                throw new Err(10);
            }
            if (files(root) == 64) {
                throw new Err(12);
            }
            long bits = perm & 511 & d.mode;
            if (!dir) {
                bits = bits | perm & 73;
            }
            last++;
            File x = child(d, name, last, perm / 512 * 512 + bits, f.user);
            x.gid = d.gid;
            d.version++;
            d.muid = f.user;
            f.file = x;
            f.mode = low;
            f.orclose = (mode & 64) != 0;
            return x.qid() + num(0, 4);
        }

        String read(Conn c, Fid f, long offset, long count) {
            if (f.mode < 0 || f.mode == 1) {
                throw new Err(9);
            }
            File x = here(f);
            if (count > c.msize - 11) {
                throw new Err(14);
            }
            if (x.isDir()) {
                if (offset != 0 && offset != f.end) {
                    throw new Err(13);
                }
                int k = offset == 0 ? 0 : f.told;
                StringBuilder s = new StringBuilder();
                while (k < x.entries.size()) {
                    String st = x.entries.get(k).stat();
                    if (s.length() + st.length() > count) {
                        break;
                    }
                    s.append(st);
                    k++;
                }
                f.told = k;
                f.end = offset + s.length();
                return s.toString();
            }
            String all;
            if (no == 2 && x.path == 1) {
                String s = input.substring(0, (int) Math.min(count, input.length()));
                input.delete(0, s.length());
                return s;
            } else if (no == 2) {
                int open = 0;
                for (Opening o : x.proc.fds) {
                    open += o == null ? 0 : 1;
                }
                all = USERS[x.proc.user] + " " + open + " " + x.proc.group.points.size() + "\n";
            } else {
                all = x.bytes.toString();
            }
            if (offset < 0 || offset >= all.length()) {
                return "";
            }
            return all.substring((int) offset, (int) Math.min(offset + count, all.length()));
        }

        void write(Fid f, long offset, String data) {
            if (f.mode != 1 && f.mode != 2) {
                throw new Err(9);
            }
            File x = here(f);
            if (no == 2) {
                if (x.path == 1) {
                    console.append(data);
                    if (console.length() > 1000) {
                        console.setLength(1000);
                    }
                } else if (data.equals("kill") || data.equals("kill\n")) {
                    x.proc.going = true;
                } else {
                    throw new Err(14);
                }
                return;
            }
            int size = x.bytes.length();
            if (x.grows()) {
                offset = size;
            }
            if (offset < 0 || offset > size) {
                throw new Err(13);
            }
            long then = Math.max(size, offset + data.length());
            if (then > 600 || bytes(root) - size + then > 8192) {
                throw new Err(12);
            }
            x.bytes.replace((int) offset, (int) Math.min(size, offset + data.length()), data);
            if (!data.isEmpty()) {
                x.version++;
                x.muid = f.user;
            }
        }

        void clunk(Fid f) {
            if (f.orclose) {
                try {
                    remove(f);
                } catch (Err e) {
                    return;
                }
            }
        }

        void remove(Fid f) {
            File x = here(f);
            if (no == 2 || x.dir == null || !x.dir.may(f.user, 2)) {
                throw new Err(3);
            }
            if (!x.entries.isEmpty()) {
                throw new Err(11);
            }
            x.gone = true;
            x.dir.entries.remove(x);
            x.dir.version++;
            x.dir.muid = f.user;
        }

        void wstat(Conn c, long fid, In in) {
            boolean same = in.num(2) == 0xFFFF;
            same &= in.num(4) == 0xFFFFFFFFL;
            same &= in.num(1) == 255;
            same &= in.num(4) == 0xFFFFFFFFL;
            same &= in.num(8) == -1;
            long mode = in.num(4);
            same &= in.num(4) == 0xFFFFFFFFL;
            same &= in.num(4) == 0xFFFFFFFFL;
            long length = in.num(8);
            String name = in.str();
            same &= in.str().isEmpty();
            same &= in.str().isEmpty();
            same &= in.str().isEmpty();
            in.end();
            Fid f = fid(c, fid);
            File x = here(f);
            if (!same) {
                throw new Err(3);
            }
            boolean named = !name.isEmpty();
            boolean sized = length != -1;
            boolean moded = mode != 0xFFFFFFFFL;
            if (no == 2 && (named || sized || moded)) {
                throw new Err(3);
            }
            if (named) {
                if (x.dir == null) {
                    throw new Err(3);
                }
                if (!goodName(name)) {
                    throw new Err(5);
                }
                File other = find(x.dir, name);
                if (other != null && other != x) {
                    throw new Err(4);
                }
                if (!x.dir.may(f.user, 2)) {
                    throw new Err(3);
                }
            }
            if (sized) {
                if (x.isDir()) {
                    throw new Err(10);
                }
                if (!x.may(f.user, 2)) {
                    throw new Err(3);
                }
                if (length < 0 || length > 600
                        || bytes(root) - x.bytes.length() + length > 8192) {
                    throw new Err(12);
                }
            }
            if (moded) {
                if (f.user != x.uid) {
                    throw new Err(3);
                }
                long changes = mode ^ x.mode;
                if ((changes & ~(511L | 1L << 30)) != 0 || x.isDir() && (changes & 1L << 30) != 0) {
                    throw new Err(16);
                }
            }
            if (named) {
                x.name = name;
            }
            if (sized) {
                x.bytes.setLength((int) length);
                x.version++;
            }
            if (moded) {
                x.mode = mode;
            }
            if (named || sized || moded) {
                x.muid = f.user;
            }
        }
    }

    // ---------------------------------------------------------------- the kernel

    static class Chan {
        int srv;
        long fid;
        long path;
        boolean dir;
        Point point;
        boolean create;

        Chan(int s, long f, long p, boolean d) {
            srv = s;
            fid = f;
            path = p;
            dir = d;
        }
    }

    static final class Opening {
        Chan c;
        int offset;
        int holders;
    }

    static final class Point {
        int srv;
        long path;
        List<Chan> members = new ArrayList<>();
    }

    static final class Group {
        List<Point> points = new ArrayList<>();

        Point at(int srv, long path) {
            for (Point p : points) {
                if (p.srv == srv && p.path == path) {
                    return p;
                }
            }
            return null;
        }
    }

    static final class Proc {
        int no;
        int user;
        Group group;
        Chan root;
        String dot = "/";
        Opening[] fds = new Opening[8];
        StringBuilder out = new StringBuilder();
        Map<Character, String> vars = new HashMap<>();
        boolean going;

        void put(String s) {
            out.append(s);
            if (out.length() > 1000) {
                out.setLength(1000);
            }
        }

        String var(char c) {
            return vars.getOrDefault(c, "");
        }
    }

    final StringBuilder input = new StringBuilder();
    final StringBuilder console = new StringBuilder();
    final StringBuilder line = new StringBuilder();
    final StringBuilder tape = new StringBuilder();
    String told = "";
    final Srv[] srvs = new Srv[3];
    final Proc[] procs = new Proc[8];
    final List<String> messages = new ArrayList<>();
    long sum = -3750763034362895579L;

    Model() {
        for (int s = 0; s < 3; s++) {
            srvs[s] = new Srv(s);
        }
        for (int s = 0; s < 3; s++) {
            rpc(s, msg(100, 65535, num(256, 4) + str("9P2000")));
        }
    }

    private void log(String m) {
        messages.add(m);
        for (char ch : m.toCharArray()) {
            sum = (sum ^ ch) * 1099511628211L;
        }
    }

    /** The body of the answer; its error as an exception. */
    private String rpc(int s, String m) {
        log(m);
        String a = srvs[s].handle(0, m);
        log(a);
        if (a.charAt(4) == 107) {
            throw new Err(Arrays.asList(NAMES).indexOf(a.substring(9)));
        }
        return a.substring(7);
    }

    private String rpc(int s, int type, String body) {
        return rpc(s, msg(type, 1, body));
    }

    private long newFid(int s) {
        for (long f = 0; f < 48; f++) {
            if (!srvs[s].conns[0].fids.containsKey(f)) {
                return f;
            }
        }
        throw new Err(12);
    }

    private Chan attach(int s, int user) {
        long f = newFid(s);
        String qid = rpc(s, 104, num(f, 4) + num(-1, 4) + str(USERS[user]) + str(""));
        return new Chan(s, f, new In(qid.substring(5)).num(8), qid.charAt(0) == 128);
    }

    private Chan walk0(Chan c) {
        long f = newFid(c.srv);
        rpc(c.srv, 110, num(c.fid, 4) + num(f, 4) + num(0, 2));
        return new Chan(c.srv, f, c.path, c.dir);
    }

    private Chan walk1(Chan c, String name) {
        long f = newFid(c.srv);
        String a = rpc(c.srv, 110, num(c.fid, 4) + num(f, 4) + num(1, 2) + str(name));
        return new Chan(c.srv, f, new In(a.substring(7)).num(8), a.charAt(2) == 128);
    }

    private void clunk(Chan c) {
        rpc(c.srv, 120, num(c.fid, 4));
    }

    /** A PATH made plain: its beginning and its names. */
    private static List<String> path(Proc p, String word) {
        if (word.isEmpty()) {
            throw new Err(5);
        }
        String all = word.startsWith("/") || word.startsWith("#") ? word : p.dot + "/" + word;
        List<String> plain = new ArrayList<>();
        String rest;
        if (all.startsWith("#")) {
            if (!all.matches("(?s)#[012](/.*)?")) {
                throw new Err(5);
            }
            plain.add(all.substring(0, 2));
            rest = all.substring(2);
        } else {
            plain.add("/");
            rest = all;
        }
        for (String name : rest.split("/")) {
            if (name.isEmpty() || name.equals(".")) {
                continue;
            }
            if (name.equals("..")) {
                if (plain.size() > 1) {
                    plain.remove(plain.size() - 1);
                }
            } else {
                plain.add(name);
            }
        }
        if (plain.size() > 11 || text(plain).length() > 60) {
            throw new Err(5);
        }
        return plain;
    }

    private static String text(List<String> plain) {
        String names = String.join("/", plain.subList(1, plain.size()));
        return plain.get(0).equals("/") ? "/" + names
            : plain.get(0) + (names.isEmpty() ? "" : "/" + names);
    }

    private Chan walk(Proc p, List<String> plain, boolean through) {
        Chan c = plain.get(0).equals("/") ? walk0(p.root)
            : attach(plain.get(0).charAt(1) - '0', p.user);
        for (String name : plain.subList(1, plain.size())) {
            Point point = p.group.at(c.srv, c.path);
            List<Chan> from = point == null ? List.of(c) : point.members;
            Chan found = null;
            Err last = null;
            for (Chan m : from) {
                try {
                    found = walk1(m, name);
                    break;
                } catch (Err e) {
                    last = e;
                }
            }
            clunk(c);
            if (found == null) {
                throw last;
            }
            c = found;
        }
        Point end = p.group.at(c.srv, c.path);
        if (through && end != null) {
            try {
                Chan there = walk0(end.members.get(0));
                there.point = end;
                clunk(c);
                return there;
            } catch (Err e) {
                clunk(c);
                throw e;
            }
        }
        return c;
    }

    // ---------------------------------------------------------------- commands

    private Proc me;
    private int begun;
    private List<List<String>> scripts = new ArrayList<>();
    private List<Chan> held = new ArrayList<>();

    private Chan hold(Chan c) {
        held.add(c);
        return c;
    }

    private void drop(Chan c) {
        held.remove(c);
        clunk(c);
    }

    private static int match(String word, String form) {
        if (!word.matches(form)) {
            throw new Err(18);
        }
        return 0;
    }

    private static int octal(String w) {
        match(w, "[0-7]{1,3}");
        return Integer.parseInt(w, 8);
    }

    private static int decimal(String w) {
        match(w, "[0-9]{1,4}");
        return Integer.parseInt(w);
    }

    private static int digit(String w) {
        match(w, "[0-7]");
        return w.charAt(0) - '0';
    }

    private String expand(String s) {
        StringBuilder t = new StringBuilder();
        for (int i = 0; i < s.length(); i++) {
            char ch = s.charAt(i);
            char next = ch == '$' && i + 1 < s.length() ? s.charAt(i + 1) : 0;
            if (next >= '0' && next <= '9') {
                if (!scripts.isEmpty()) {
                    List<String> args = scripts.get(scripts.size() - 1);
                    t.append(next - '0' < args.size() ? args.get(next - '0') : "");
                }
                i++;
            } else if (next >= 'a' && next <= 'z') {
                t.append(me.var(next));
                i++;
            } else if (next == '$') {
                t.append('$');
                i++;
            } else {
                t.append(ch);
            }
        }
        if (t.length() > 100) {
            throw new Err(18);
        }
        return t.toString();
    }

    /** A command at that depth; it answers or throws its error. */
    private void command(String text, boolean toExpand, int depth) {
        if (depth > 12 || begun == 200) {
            throw new Err(20);
        }
        begun++;
        String s = toExpand ? expand(text) : text;
        List<String> w = new ArrayList<>();
        for (String word : s.split(" ")) {
            if (!word.isEmpty()) {
                w.add(word);
            }
        }
        if (w.isEmpty()) {
            return;
        }
        List<Chan> outer = held;
        held = new ArrayList<>();
        try {
            perform(w, depth);
        } catch (Err e) {
            for (int i = held.size() - 1; i >= 0; i--) {
                clunk(held.get(i));
            }
            throw e;
        } finally {
            held = outer;
        }
    }

    private void count(List<String> w, int least, int most) {
        if (w.size() < least || w.size() > most) {
            throw new Err(18);
        }
    }

    private void perform(List<String> w, int depth) {
        switch (w.get(0)) {
            case "cd": {
                count(w, 2, 2);
                List<String> plain = path(me, w.get(1));
                Chan c = hold(walk(me, plain, true));
                if (!c.dir) {
                    throw new Err(2);
                }
                drop(c);
                me.dot = text(plain);
                break;
            }
            case "cat":
                count(w, 2, 2);
                me.put(contents(w.get(1), true));
                break;
            case "ls":
                count(w, 2, 2);
                ls(w.get(1));
                break;
            case "echo":
                echo(w);
                break;
            case "mkdir":
                count(w, 2, 2);
                drop(create(w.get(1), (1L << 31) + 511, 0));
                break;
            case "create": {
                count(w, 4, 4);
                int perm = octal(w.get(1));
                match(w.get(3), "[012]");
                int fd = free();
                settle(fd, create(w.get(2), perm, digit(w.get(3))));
                break;
            }
            case "open": {
                count(w, 3, 3);
                match(w.get(2), "[012]");
                int fd = free();
                Chan c = hold(walk(me, path(me, w.get(1)), true));
                rpc(c.srv, 112, num(c.fid, 4) + num(digit(w.get(2)), 1));
                settle(fd, c);
                break;
            }
            case "rm": {
                count(w, 2, 2);
                Chan c = walk(me, path(me, w.get(1)), false);
                rpc(c.srv, 122, num(c.fid, 4));
                break;
            }
            case "mv": {
                count(w, 3, 3);
                Chan c = hold(walk(me, path(me, w.get(1)), false));
                wstat(c, -1, -1, w.get(2));
                drop(c);
                break;
            }
            case "size": {
                count(w, 3, 3);
                int n = decimal(w.get(1));
                Chan c = hold(walk(me, path(me, w.get(2)), false));
                wstat(c, -1, n, "");
                drop(c);
                break;
            }
            case "chmod": {
                count(w, 3, 3);
                int o = octal(w.get(1));
                Chan c = hold(walk(me, path(me, w.get(2)), false));
                long mode = new In(stat(c).substring(21)).num(4);
                wstat(c, mode / 512 * 512 + o, -1, "");
                drop(c);
                break;
            }
            case "stat": {
                count(w, 2, 2);
                Chan c = hold(walk(me, path(me, w.get(1)), true));
                In st = new In(stat(c));
                drop(c);
                st.raw(8);
                st.num(1);
                long version = st.num(4);
                st.num(8);
                long mode = st.num(4);
                st.num(8);
                long length = st.num(8);
                String name = st.str();
                me.put(name + " " + ((mode >> 31 & 1) == 1 ? "d" : (mode >> 30 & 1) == 1 ? "a" : "-")
                    + String.format("%03o", mode & 511) + " " + length + " " + st.str() + " "
                    + version + "\n");
                break;
            }
            case "read": {
                count(w, 3, 3);
                int d = digit(w.get(1));
                int n = decimal(w.get(2));
                if (n < 1 || n > 100) {
                    throw new Err(18);
                }
                Opening o = opening(d);
                String a = rpc(o.c.srv, 116, num(o.c.fid, 4) + num(o.offset, 8) + num(n, 4));
                me.put(a.substring(4));
                o.offset += a.length() - 4;
                break;
            }
            case "write": {
                count(w, 3, 3);
                Opening o = opening(digit(w.get(1)));
                String data = w.get(2);
                rpc(o.c.srv, 118, num(o.c.fid, 4) + num(o.offset, 8) + num(data.length(), 4) + data);
                o.offset += data.length();
                break;
            }
            case "seek": {
                count(w, 3, 3);
                int d = digit(w.get(1));
                int n = decimal(w.get(2));
                opening(d).offset = n;
                break;
            }
            case "close": {
                count(w, 2, 2);
                int d = digit(w.get(1));
                opening(d);
                close(me, d);
                break;
            }
            case "bind":
            case "mount":
                bind(w);
                break;
            case "unmount":
                unmount(w);
                break;
            case "fork":
                fork(w);
                break;
            case "exit":
                count(w, 1, 1);
                me.going = true;
                break;
            case "set": {
                count(w, 2, 3);
                match(w.get(1), "[a-z]");
                set(w.get(1).charAt(0), w.size() == 3 ? w.get(2) : "");
                break;
            }
            case "if": {
                if (w.size() < 5 || !w.get(2).equals("=") && !w.get(2).equals("!=")) {
                    throw new Err(18);
                }
                if (w.get(1).equals(w.get(3)) == w.get(2).equals("=")) {
                    command(String.join(" ", w.subList(4, w.size())), false, depth + 1);
                }
                break;
            }
            case "for": {
                if (w.size() < 5 || !w.get(2).equals("in")) {
                    throw new Err(18);
                }
                match(w.get(1), "[a-z]");
                int body = w.subList(3, w.size()).indexOf("do") + 3;
                if (body < 3 || body == w.size() - 1) {
                    throw new Err(18);
                }
                for (String word : w.subList(3, body)) {
                    set(w.get(1).charAt(0), word);
                    command(String.join(" ", w.subList(body + 1, w.size())), true, depth + 1);
                    if (me.going) {
                        break;
                    }
                }
                break;
            }
            case "run":
                run(w, depth);
                break;
            default:
                throw new Err(18);
        }
    }

    private void set(char x, String value) {
        if (value.length() > 20) {
            throw new Err(18);
        }
        me.vars.put(x, value);
    }

    private void run(List<String> w, int depth) {
        count(w, 2, 11);
        String script = contents(w.get(1), false);
        if (script.length() > 600) {
            script = script.substring(0, 600);
        }
        scripts.add(w.subList(1, w.size()));
        try {
            for (int at = 0; at < script.length(); ) {
                int end = script.indexOf('\n', at);
                end = end < 0 ? script.length() : end;
                String one = script.substring(at, end);
                at = end + 1;
                boolean minus = one.startsWith("-");
                try {
                    if (one.length() > 100) {
                        throw new Err(18);
                    }
                    command(minus ? one.substring(1) : one, true, depth + 1);
                } catch (Err e) {
                    if (!minus) {
                        throw e;
                    }
                }
                if (me.going) {
                    return;
                }
            }
        } finally {
            scripts.remove(scripts.size() - 1);
        }
    }

    /** What cat does; with an error, what it read before goes to OUT, too. */
    private String contents(String word, boolean toOut) {
        Chan c = hold(walk(me, path(me, word), true));
        if (c.dir) {
            throw new Err(10);
        }
        rpc(c.srv, 112, num(c.fid, 4) + num(0, 1));
        StringBuilder all = new StringBuilder();
        while (true) {
            String a;
            try {
                a = rpc(c.srv, 116, num(c.fid, 4) + num(all.length(), 8) + num(100, 4));
            } catch (Err e) {
                if (toOut) {
                    me.put(all.toString());
                }
                throw e;
            }
            if (a.length() == 4) {
                break;
            }
            all.append(a.substring(4));
        }
        drop(c);
        return all.toString();
    }

    private void ls(String word) {
        Chan c = hold(walk(me, path(me, word), true));
        if (!c.dir) {
            throw new Err(2);
        }
        if (c.point == null) {
            list(c);
            return;
        }
        drop(c);
        for (Chan m : c.point.members) {
            list(hold(walk0(m)));
        }
    }

    private void list(Chan c) {
        rpc(c.srv, 112, num(c.fid, 4) + num(0, 1));
        long at = 0;
        while (true) {
            String a = rpc(c.srv, 116, num(c.fid, 4) + num(at, 8) + num(100, 4)).substring(4);
            if (a.isEmpty()) {
                break;
            }
            at += a.length();
            In in = new In(a);
            while (in.at < a.length()) {
                In st = new In(in.str());
                st.raw(6);
                boolean dir = st.num(1) == 128;
                st.raw(12 + 4 + 8 + 8);
                me.put(st.str() + (dir ? "/" : "") + "\n");
            }
        }
        drop(c);
    }

    private void echo(List<String> w) {
        int n = w.size();
        boolean more = n >= 3 && w.get(n - 2).equals(">>");
        boolean to = more || n >= 3 && w.get(n - 2).equals(">");
        String text = String.join(" ", w.subList(1, to ? n - 2 : n)) + "\n";
        if (!to) {
            me.put(text);
            return;
        }
        Chan c;
        long offset = 0;
        Err failed = null;
        try {
            c = hold(walk(me, path(me, w.get(n - 1)), true));
        } catch (Err e) {
            failed = e;
            c = null;
        }
        if (c == null) {
            if (failed.n != 1) {
                throw failed;
            }
            c = create(w.get(n - 1), 438, 1);
        } else {
            rpc(c.srv, 112, num(c.fid, 4) + num(more ? 1 : 17, 1));
            if (more) {
                offset = new In(stat(c).substring(33)).num(8);
            }
        }
        for (int i = 0; i < text.length(); i += 100) {
            String part = text.substring(i, Math.min(i + 100, text.length()));
            rpc(c.srv, 118, num(c.fid, 4) + num(offset + i, 8) + num(part.length(), 4) + part);
        }
        drop(c);
    }

    private Chan create(String word, long perm, int mode) {
        List<String> plain = path(me, word);
        if (plain.size() == 1) {
            throw new Err(5);
        }
        Chan c = hold(walk(me, plain.subList(0, plain.size() - 1), true));
        if (c.point != null) {
            drop(c);
            Chan place = null;
            for (Chan m : c.point.members) {
                if (m.create && place == null) {
                    place = m;
                }
            }
            if (place == null) {
                throw new Err(17);
            }
            c = hold(walk0(place));
        }
        rpc(c.srv, 114, num(c.fid, 4) + str(plain.get(plain.size() - 1)) + num(perm, 4)
            + num(mode, 1));
        return c;
    }

    private int free() {
        for (int d = 0; d < 8; d++) {
            if (me.fds[d] == null) {
                return d;
            }
        }
        throw new Err(20);
    }

    private void settle(int fd, Chan c) {
        held.remove(c);
        Opening o = new Opening();
        o.c = c;
        o.holders = 1;
        me.fds[fd] = o;
        me.put(fd + "\n");
    }

    private Opening opening(int d) {
        if (me.fds[d] == null) {
            throw new Err(19);
        }
        return me.fds[d];
    }

    private void close(Proc p, int d) {
        Opening o = p.fds[d];
        p.fds[d] = null;
        o.holders--;
        if (o.holders == 0) {
            clunk(o.c);
        }
    }

    private String stat(Chan c) {
        return rpc(c.srv, 124, num(c.fid, 4)).substring(2);
    }

    private void wstat(Chan c, long mode, long length, String name) {
        String s = num(-1, 2) + num(-1, 4) + num(-1, 1) + num(-1, 4) + num(-1, 8) + num(mode, 4)
            + num(-1, 4) + num(-1, 4) + num(length, 8) + str(name) + str("") + str("") + str("");
        rpc(c.srv, 126, num(c.fid, 4) + str(str(s)));
    }

    private void bind(List<String> w) {
        count(w, 3, 4);
        String flags = w.size() == 4 ? w.get(1) : "";
        if (w.size() == 4) {
            match(flags, "-[abc]+");
        }
        String first = w.get(w.size() - 2);
        Chan n;
        if (w.get(0).equals("mount")) {
            match(first, "[012]");
            n = hold(attach(digit(first), me.user));
        } else {
            n = hold(walk(me, path(me, first), true));
        }
        Chan o = hold(walk(me, path(me, w.get(w.size() - 1)), false));
        boolean fine = n.dir && o.dir || !n.dir && !o.dir && flags.isEmpty();
        if (!fine) {
            throw new Err(16);
        }
        Group g = me.group;
        Point at = g.at(o.srv, o.path);
        boolean before = flags.contains("b");
        boolean behind = !before && flags.contains("a");
        boolean toCreate = flags.contains("c");
        boolean many = n.point != null && n.point != at;
        int k = many ? n.point.members.size() : 1;
        if (before || behind) {
            k += at == null ? 1 : at.members.size();
        }
        if (k > 6 || at == null && g.points.size() == 8) {
            throw new Err(20);
        }
        List<Chan> fresh = new ArrayList<>();
        if (many) {
            for (Chan m : n.point.members) {
                Chan c = hold(walk0(m));
                c.create = toCreate || m.create;
                fresh.add(c);
            }
            // what was made comes to stay, so it is not N's or O's turn to be clunked later
            held.removeAll(fresh);
            drop(n);
        } else {
            held.remove(n);
            n.create = toCreate;
            n.point = null;
            fresh.add(n);
        }
        held.remove(o);
        if (at == null) {
            at = new Point();
            at.srv = o.srv;
            at.path = o.path;
            g.points.add(at);
            at.members.addAll(fresh);
            if (before) {
                at.members.add(o);
            } else if (behind) {
                at.members.add(0, o);
            } else {
                clunk(o);
            }
            return;
        }
        if (before) {
            at.members.addAll(0, fresh);
        } else if (behind) {
            at.members.addAll(fresh);
        } else {
            for (Chan m : at.members) {
                clunk(m);
            }
            at.members = fresh;
        }
        clunk(o);
    }

    private void unmount(List<String> w) {
        count(w, 2, 3);
        Group g = me.group;
        Chan n = w.size() == 3 ? hold(walk(me, path(me, w.get(1)), false)) : null;
        Chan o = hold(walk(me, path(me, w.get(w.size() - 1)), false));
        drop(o);
        if (n != null) {
            drop(n);
        }
        Point at = g.at(o.srv, o.path);
        if (at == null) {
            throw new Err(1);
        }
        if (n == null) {
            for (Chan m : at.members) {
                clunk(m);
            }
            g.points.remove(at);
            return;
        }
        for (Chan m : at.members) {
            if (m.srv == n.srv && m.path == n.path) {
                clunk(m);
                at.members.remove(m);
                if (at.members.isEmpty()) {
                    g.points.remove(at);
                }
                return;
            }
        }
        throw new Err(1);
    }

    private void fork(List<String> w) {
        count(w, 2, 2);
        match(w.get(1), "[sce]");
        Proc q = new Proc();
        q.no = freeProc();
        if (q.no < 0) {
            throw new Err(20);
        }
        q.user = me.user;
        q.dot = me.dot;
        q.root = hold(walk0(me.root));
        q.group = w.get(1).equals("s") ? me.group : new Group();
        if (w.get(1).equals("c")) {
            for (Point p : me.group.points) {
                Point to = new Point();
                to.srv = p.srv;
                to.path = p.path;
                for (Chan m : p.members) {
                    Chan c = hold(walk0(m));
                    c.create = m.create;
                    to.members.add(c);
                }
                q.group.points.add(to);
            }
        }
        held.clear();
        q.vars.putAll(me.vars);
        for (int d = 0; d < 8; d++) {
            q.fds[d] = me.fds[d];
            if (q.fds[d] != null) {
                q.fds[d].holders++;
            }
        }
        appear(q);
        me.put(q.no + "\n");
    }

    private int freeProc() {
        for (int i = 0; i < 8; i++) {
            if (procs[i] == null) {
                return i;
            }
        }
        return -1;
    }

    private void appear(Proc q) {
        procs[q.no] = q;
        Srv s = srvs[2];
        File d = s.child(s.root, "" + q.no, 16 * q.no + 16, (1L << 31) + 365, q.user);
        d.proc = q;
        s.child(d, "status", d.path + 1, 292, q.user).proc = q;
        s.child(d, "ctl", d.path + 2, 128, q.user).proc = q;
    }

    private void reap() {
        for (int i = 0; i < 8; i++) {
            Proc p = procs[i];
            if (p == null || !p.going) {
                continue;
            }
            for (int d = 0; d < 8; d++) {
                if (p.fds[d] != null) {
                    close(p, d);
                }
            }
            procs[i] = null;
            boolean shared = false;
            for (Proc q : procs) {
                shared |= q != null && q.group == p.group;
            }
            if (!shared) {
                for (Point point : p.group.points) {
                    for (Chan m : point.members) {
                        clunk(m);
                    }
                }
            }
            clunk(p.root);
            for (File d : new ArrayList<>(srvs[2].root.entries)) {
                if (d.proc == p) {
                    d.gone = true;
                    for (File e : d.entries) {
                        e.gone = true;
                    }
                    srvs[2].root.entries.remove(d);
                }
            }
        }
    }

    // ---------------------------------------------------------------- the face

    private Proc proc(int p) {
        return p < 0 || p > 7 ? null : procs[p];
    }

    private static int at(CharSequence s, int i) {
        return i < 0 || i >= s.length() ? -1 : s.charAt(i);
    }

    int type(long w, int n) {
        if (n < 1 || n > 8) {
            return -100;
        }
        if (line.length() + n > 100) {
            return -101;
        }
        line.append(num(w, n));
        return line.length();
    }

    int enter(int process) {
        me = proc(process);
        if (me == null) {
            return -100;
        }
        String s = line.toString();
        line.setLength(0);
        begun = 0;
        scripts = new ArrayList<>();
        held = new ArrayList<>();
        int answer = 0;
        try {
            command(s, true, 1);
        } catch (Err e) {
            answer = -e.n;
        }
        reap();
        return answer;
    }

    int login(int user) {
        if (user < 0 || user > 3) {
            return -100;
        }
        Proc p = new Proc();
        p.no = freeProc();
        if (p.no < 0) {
            return -101;
        }
        p.user = user;
        p.group = new Group();
        try {
            p.root = attach(0, user);
        } catch (Err e) {
            return -e.n;
        }
        appear(p);
        return p.no;
    }

    int out(int process, int i) {
        return proc(process) == null ? -1 : at(proc(process).out, i);
    }

    int wipe(int process) {
        if (proc(process) == null) {
            return -100;
        }
        int n = proc(process).out.length();
        proc(process).out.setLength(0);
        return n;
    }

    private static int append(StringBuilder s, int b, int most) {
        if (b < 0 || b > 255) {
            return -100;
        }
        if (s.length() == most) {
            return -101;
        }
        s.append((char) b);
        return s.length();
    }

    int input(int b) {
        return append(input, b, 200);
    }

    int console(int i) {
        return at(console, i);
    }

    int messages() {
        return messages.size();
    }

    int message(int k, int i) {
        if (k < 0 || k >= messages.size() || k < messages.size() - 40) {
            return -1;
        }
        return at(messages.get(k), i);
    }

    long sum() {
        return sum;
    }

    int feed(int b) {
        return append(tape, b, 400);
    }

    int ask(int server) {
        if (server < 0 || server > 2) {
            return -100;
        }
        String a = srvs[server].handle(1, tape.toString());
        tape.setLength(0);
        told = a == null ? "" : a;
        reap();
        return a == null ? -1 : a.length();
    }

    int answer(int i) {
        return at(told, i);
    }

    int process(int process, int what) {
        Proc p = proc(process);
        if (p == null) {
            return -1;
        }
        int open = 0;
        for (Opening o : p.fds) {
            open += o == null ? 0 : 1;
        }
        int sharing = 0;
        for (Proc q : procs) {
            sharing += q != null && q.group == p.group ? 1 : 0;
        }
        if (what >= 7 && what <= 32) {
            return p.var((char) ('a' + what - 7)).length();
        }
        int[] all = {p.user, p.out.length(), open, p.group.points.size(), sharing, (int) p.root.fid,
            p.dot.length()};
        return what < 0 || what >= all.length ? -100 : all[what];
    }

    int variable(int process, int x, int i) {
        Proc p = proc(process);
        return p == null || x < 0 || x > 25 ? -1 : at(p.var((char) ('a' + x)), i);
    }

    int dot(int process, int i) {
        return proc(process) == null ? -1 : at(proc(process).dot, i);
    }

    int point(int process, int k, int what) {
        Proc p = proc(process);
        if (p == null || k < 0 || k >= p.group.points.size()) {
            return -1;
        }
        Point point = p.group.points.get(k);
        return what == 0 ? point.srv : what == 1 ? (int) point.path
            : what == 2 ? point.members.size() : -100;
    }

    int member(int process, int k, int j, int what) {
        if (point(process, k, 2) < 0 || j < 0 || j >= point(process, k, 2)) {
            return -1;
        }
        Chan m = proc(process).group.points.get(k).members.get(j);
        return what == 0 ? m.srv : what == 1 ? (int) m.fid : what == 2 ? (int) m.path
            : what == 3 ? m.create ? 1 : 0 : -100;
    }

    int descriptor(int process, int d, int what) {
        Proc p = proc(process);
        if (p == null || d < 0 || d > 7 || p.fds[d] == null) {
            return -1;
        }
        Opening o = p.fds[d];
        return what == 0 ? o.c.srv : what == 1 ? (int) o.c.fid : what == 2 ? o.offset
            : what == 3 ? o.holders : -100;
    }

    int server(int server, int what) {
        if (server < 0 || server > 2 || what < 0 || what > 5) {
            return -100;
        }
        Srv s = srvs[server];
        long[] all = {s.files(s.root), s.bytes(s.root), s.conns[0].fids.size(),
            s.conns[1].fids.size(), s.conns[0].msize, s.conns[1].msize};
        return (int) all[what];
    }

    int fid(int server, int f, int what) {
        if (server < 0 || server > 2 || !srvs[server].conns[0].fids.containsKey((long) f)) {
            return -1;
        }
        Fid x = srvs[server].conns[0].fids.get((long) f);
        return what == 0 ? (int) x.file.path : what == 1 ? x.user : what == 2 ? x.mode : -100;
    }
}
