/**
 * A house of name spaces: three file servers that answer messages of bytes, a kernel whose
 * processes have name spaces of their own, and commands as lines of text.
 *
 * Calls stay shallow on purpose (LANGUAGE.md, rule 11): commands inside commands are held in
 * rows of the Shell instead of on the machine's stack, and messages are made by one call and
 * served by the next one instead of by a call that does both.
 */
public final class SpaceHouse {
    public static final int NONE = -1, BAD = -100, FULL = -101;

    private static final int NO_FILE = 1, NOT_DIRECTORY = 2, DENIED = 3, EXISTS = 4, BAD_NAME = 5,
        UNKNOWN_FID = 6, FID_IN_USE = 7, FID_IS_OPEN = 8, FID_NOT_OPEN = 9, IS_DIRECTORY = 10,
        NOT_EMPTY = 11, NO_ROOM = 12, BAD_OFFSET = 13, BAD_MESSAGE = 14, UNKNOWN_USER = 15,
        BAD_MODE = 16, NO_PLACE_TO_CREATE = 17, BAD_COMMAND = 18, NO_DESCRIPTOR = 19, TOO_MANY = 20;

    private static final int M_VERSION = 100, M_ATTACH = 104, M_ERROR = 107, M_FLUSH = 108,
        M_WALK = 110, M_OPEN = 112, M_CREATE = 114, M_READ = 116, M_WRITE = 118, M_CLUNK = 120,
        M_REMOVE = 122, M_STAT = 124, M_WSTAT = 126;

    /** Bytes of SIZE, type and TAG; those before the bytes that a read tells; that a write has. */
    private static final int HEAD = 7, READ_HEAD = 11, WRITE_HEAD = 23;
    /** In a wstat: where its STAT begins, and from there on where the parts of a STAT are. */
    private static final int WSTAT_AT = 13, STAT_VERSION = 9, STAT_MODE = 21, STAT_TIMES = 25,
        STAT_LENGTH = 33, STAT_NAME = 41;
    /** Of a message that answers stat: where its STAT begins. */
    private static final int TOLD_STAT = 9;
    /** Bytes of a STAT beside its name: users' names have three letters. */
    private static final int STAT_BYTES = STAT_NAME + 2 + 3 * 5;
    private static final long ALL_ONES = 0xFFFFFFFFL;

    private static final int DIRECTORY = 1 << 31, GROWS = 1 << 30, NINE = 511, EXECUTE_BITS = 73;
    private static final int WRITE = 2, EXECUTE = 1;
    /** What each mode of opening (0 .. 3) needs: read 4, write 2, execute 1. */
    private static final int[] NEEDS = {4, 2, 6, 1};
    private static final int WRITE_ONLY = 1, READ_WRITE = 2, EMPTIES = 16, REMOVES = 64;

    private static final int SERVERS = 3, SHOWING = 2, KERNEL = 0, OUTSIDE = 1, FIDS = 48;
    private static final int FILES = 64, FILE_BYTES = 600, TREE_BYTES = 8192, NAME_BYTES = 12;
    private static final int MOST_SIZE = 300, LEAST_SIZE = 64, KERNEL_SIZE = 256;
    private static final int USERS = 4, PROCESSES = 8, DESCRIPTORS = 8;
    private static final int VARIABLES = 26, VARIABLE_BYTES = 20;
    private static final int POINTS = 8, MEMBERS = 6, LATEST = 40, LINE_BYTES = 100;
    private static final int PATH_NAMES = 10, PATH_BYTES = 60, PORTION = 100;
    private static final int DEPTH = 12, COMMANDS = 200, ARGUMENTS = 9;
    /** No loop that is counted by this comes near it: files, scripts and commands end before. */
    private static final int MANY = 1000000;

    /** Each user's name as a number of three bytes, the lowest first: adm, ann, bob, eve. */
    private static final int[] USER_NAMES = {0x6d6461, 0x6e6e61, 0x626f62, 0x657665};

    private final Kernel kernel;
    private final Commands commands;
    private final Shell shell;
    private final Bytes line;
    private final Bytes tape;
    private final Bytes told;

    public SpaceHouse() {
        Kernel made = new Kernel();
        made.meet(new Server(made, false), new Server(made, false), new Server(made, true));
        kernel = made;
        commands = new Commands(made);
        shell = new Shell();
        line = new Bytes(LINE_BYTES);
        tape = new Bytes(400);
        told = new Bytes(MOST_SIZE);
    }

    public int type(long w, int n) {
        if (n < 1 || n > 8) {
            return BAD;
        }
        if (line.size() + n > LINE_BYTES) {
            return FULL;
        }
        line.put(w, n);
        return line.size();
    }

    public int enter(int process) {
        Process p = kernel.living(process);
        if (p == null) {
            return BAD;
        }
        shell.begin(line);
        line.clear();
        for (int i = 0; i < MANY && shell.goesOn(); i++) {
            Command c = shell.next(p);
            if (c == null) {
                continue;
            }
            int error = BAD_COMMAND;
            switch (c.verb()) {
                case Command.EMPTY: error = 0; break;
                case Command.CD: error = commands.cd(p, c); break;
                case Command.CAT: error = commands.cat(p, c); break;
                case Command.LS: error = commands.ls(p, c); break;
                case Command.ECHO: error = commands.echo(p, c); break;
                case Command.MKDIR: error = commands.mkdir(p, c); break;
                case Command.CREATE: error = commands.create(p, c); break;
                case Command.RM: error = commands.rm(p, c); break;
                case Command.MV: error = commands.mv(p, c); break;
                case Command.SIZE: error = commands.size(p, c); break;
                case Command.CHMOD: error = commands.chmod(p, c); break;
                case Command.STAT: error = commands.stat(p, c); break;
                case Command.OPEN: error = commands.open(p, c); break;
                case Command.READ: error = commands.read(p, c); break;
                case Command.WRITE: error = commands.write(p, c); break;
                case Command.SEEK: error = commands.seek(p, c); break;
                case Command.CLOSE: error = commands.close(p, c); break;
                case Command.BIND: error = commands.bind(p, c); break;
                case Command.MOUNT: error = commands.mount(p, c); break;
                case Command.UNMOUNT: error = commands.unmount(p, c); break;
                case Command.FORK: error = commands.fork(p, c); break;
                case Command.EXIT: error = commands.exit(p, c); break;
                case Command.SET: error = commands.set(p, c); break;
                case Command.IF: error = shell.choose(c); break;
                case Command.FOR: error = shell.repeat(c); break;
                case Command.RUN: error = commands.run(p, c); break;
                default: break;
            }
            shell.end(error);
        }
        kernel.letGo();
        return -shell.error();
    }

    public int login(int user) {
        return user < 0 || user >= USERS ? BAD : kernel.admit(user);
    }

    public int out(int process, int i) {
        Process p = kernel.living(process);
        return p == null ? NONE : p.out.at(i);
    }

    public int wipe(int process) {
        Process p = kernel.living(process);
        if (p == null) {
            return BAD;
        }
        int had = p.out.size();
        p.out.clear();
        return had;
    }

    public int input(int b) {
        return append(kernel.input, b);
    }

    public int console(int i) {
        return kernel.console.at(i);
    }

    public int messages() {
        return kernel.messages;
    }

    public int message(int k, int i) {
        Bytes kept = kernel.kept(k);
        return kept == null ? NONE : kept.at(i);
    }

    public long sum() {
        return kernel.sum;
    }

    public int feed(int b) {
        return append(tape, b);
    }

    private static int append(Bytes row, int b) {
        if (b < 0 || b > 255) {
            return BAD;
        }
        return row.add(b) ? row.size() : FULL;
    }

    public int ask(int server) {
        if (server < 0 || server >= SERVERS) {
            return BAD;
        }
        kernel.host(server).serve(OUTSIDE, tape, told);
        tape.clear();
        kernel.letGo();
        return told.size() == 0 ? NONE : told.size();
    }

    public int answer(int i) {
        return told.at(i);
    }

    public int process(int process, int what) {
        Process p = kernel.living(process);
        if (p == null) {
            return NONE;
        }
        switch (what) {
            case 0: return p.user;
            case 1: return p.out.size();
            case 2: return p.openCount();
            case 3: return p.group.count;
            case 4: return p.group.holders;
            case 5: return p.root;
            case 6: return p.dot.size();
            default:
                Bytes value = p.variableOf(what - 7);
                return value == null ? BAD : value.size();
        }
    }

    public int variable(int process, int x, int i) {
        Process p = kernel.living(process);
        Bytes value = p == null ? null : p.variableOf(x);
        return value == null ? NONE : value.at(i);
    }

    public int dot(int process, int i) {
        Process p = kernel.living(process);
        return p == null ? NONE : p.dot.at(i);
    }

    public int point(int process, int k, int what) {
        Process p = kernel.living(process);
        Point point = p == null ? null : p.group.pointOf(k);
        if (point == null) {
            return NONE;
        }
        switch (what) {
            case 0: return point.server;
            case 1: return point.path;
            case 2: return point.count;
            default: return BAD;
        }
    }

    public int member(int process, int k, int j, int what) {
        Process p = kernel.living(process);
        Point point = p == null ? null : p.group.pointOf(k);
        Channel member = point == null ? null : point.memberOf(j);
        if (member == null) {
            return NONE;
        }
        switch (what) {
            case 0: return member.server;
            case 1: return member.fid;
            case 2: return member.path;
            case 3: return member.create ? 1 : 0;
            default: return BAD;
        }
    }

    public int descriptor(int process, int d, int what) {
        Process p = kernel.living(process);
        Channel opening = p == null ? null : p.openingOf(d);
        if (opening == null) {
            return NONE;
        }
        switch (what) {
            case 0: return opening.server;
            case 1: return opening.fid;
            case 2: return opening.offset;
            case 3: return opening.holders;
            default: return BAD;
        }
    }

    public int server(int server, int what) {
        if (server < 0 || server >= SERVERS) {
            return BAD;
        }
        Server s = kernel.host(server);
        switch (what) {
            case 0: return s.count;
            case 1: return s.total;
            case 2: return s.fidCount(KERNEL);
            case 3: return s.fidCount(OUTSIDE);
            case 4: return s.sizeOf(KERNEL);
            case 5: return s.sizeOf(OUTSIDE);
            default: return BAD;
        }
    }

    public int fid(int server, int f, int what) {
        Fid found = server < 0 || server >= SERVERS ? null : kernel.host(server).find(KERNEL, f);
        if (found == null) {
            return NONE;
        }
        switch (what) {
            case 0: return found.path;
            case 1: return found.user;
            case 2: return found.mode;
            default: return BAD;
        }
    }

    private static int userName(int user) {
        return user >= 0 && user < USERS ? USER_NAMES[user] : 0;
    }

    private static String errorText(int error) {
        switch (error) {
            case NO_FILE: return "no such file";
            case NOT_DIRECTORY: return "not a directory";
            case DENIED: return "permission denied";
            case EXISTS: return "file exists";
            case BAD_NAME: return "bad name";
            case UNKNOWN_FID: return "unknown fid";
            case FID_IN_USE: return "fid in use";
            case FID_IS_OPEN: return "fid is open";
            case FID_NOT_OPEN: return "fid is not open";
            case IS_DIRECTORY: return "is a directory";
            case NOT_EMPTY: return "not empty";
            case NO_ROOM: return "no room";
            case BAD_OFFSET: return "bad offset";
            case BAD_MESSAGE: return "bad message";
            case UNKNOWN_USER: return "unknown user";
            default: return "bad mode";
        }
    }

    /** Bytes in a row, up to a limit; as a message they begin with SIZE, type and TAG. */
    private static final class Bytes {
        private final byte[] row;
        private int size;

        Bytes(int limit) {
            row = new byte[limit > 0 ? limit : 0];
        }

        int size() {
            return size;
        }

        void clear() {
            size = 0;
        }

        /** Byte i, or NONE. */
        int at(int i) {
            return i < 0 || i >= size || i >= row.length ? NONE : row[i] & 255;
        }

        boolean add(int b) {
            if (size >= row.length) {
                return false;
            }
            row[size] = (byte) b;
            size++;
            return true;
        }

        /** As many bytes of another row as there is room for; whether that is all of them. */
        boolean addAll(Bytes other, int start, int end) {
            for (int i = start; i < end; i++) {
                if (size >= row.length || i < 0 || i >= other.size) {
                    return false;
                }
                row[size] = other.row[i];
                size++;
            }
            return true;
        }

        /** The row is what addAll() puts there. */
        boolean take(Bytes other, int start, int end) {
            size = 0;
            return addAll(other, start, end);
        }

        void takeText(String text) {
            size = 0;
            addText(text);
        }

        void addText(String text) {
            for (int i = 0; i < text.length() && size < row.length; i++) {
                row[size] = (byte) text.charAt(i);
                size++;
            }
        }

        /** A number of 0 or more as decimal digits. */
        void addNumber(long number) {
            long unit = 1;
            for (long rest = number / 10; rest > 0; rest /= 10) {
                unit *= 10;
            }
            for (; unit > 0 && size < row.length; unit /= 10) {
                row[size] = (byte) ('0' + number / unit % 10);
                size++;
            }
        }

        /** A number of n bytes, the lowest first. */
        void put(long number, int n) {
            long rest = number;
            for (int i = 0; i < n && size < row.length; i++) {
                row[size] = (byte) rest;
                size++;
                rest >>= 8;
            }
        }

        /** The same over bytes that are there. */
        void replace(int start, long number, int n) {
            long rest = number;
            for (int i = start; i < start + n; i++) {
                if (i >= 0 && i < size) {
                    row[i] = (byte) rest;
                }
                rest >>= 8;
            }
        }

        /** The number of n bytes from there on; 0 if they are not all there. */
        long number(int start, int n) {
            if (start < 0 || start + n > size) {
                return 0;
            }
            long number = 0;
            for (int i = start + n - 1; i >= start; i--) {
                number = number << 8 | row[i] & 255;
            }
            return number;
        }

        /** Where the STRING that begins there ends, or NONE if it does not end in here. */
        int stringEnd(int start) {
            if (start < 0 || start + 2 > size) {
                return NONE;
            }
            int end = start + 2 + (row[start] & 255) + 256 * (row[start + 1] & 255);
            return end > size ? NONE : end;
        }

        boolean allOnes(int start, int end) {
            for (int i = start; i < end; i++) {
                if (i < 0 || i >= size || row[i] != -1) {
                    return false;
                }
            }
            return true;
        }

        /** Whether these bytes are, from the first to the last one, all of another row. */
        boolean matches(int start, int end, Bytes other) {
            if (start < 0 || end > size || end - start != other.size) {
                return false;
            }
            for (int i = start; i < end; i++) {
                if (row[i] != other.row[i - start]) {
                    return false;
                }
            }
            return true;
        }

        boolean spells(int start, int end, String text) {
            if (start < 0 || end > size || end - start != text.length()) {
                return false;
            }
            for (int i = start; i < end; i++) {
                if ((row[i] & 255) != text.charAt(i - start)) {
                    return false;
                }
            }
            return true;
        }

        /** Whether these bytes are so many dots. */
        boolean areDots(int start, int end, int n) {
            if (start < 0 || end > size || end - start != n) {
                return false;
            }
            for (int i = start; i < end; i++) {
                if (row[i] != '.') {
                    return false;
                }
            }
            return true;
        }

        /** Whether a file may have these bytes as its name. */
        boolean isName(int start, int end) {
            int n = end - start;
            if (start < 0 || end > size || n < 1 || n > NAME_BYTES) {
                return false;
            }
            boolean onlyDots = n < 3;
            for (int i = start; i < end; i++) {
                if (row[i] < 33 || row[i] > 126 || row[i] == '/') {
                    return false;
                }
                onlyDots = onlyDots && row[i] == '.';
            }
            return !onlyDots;
        }

        /** The first n bytes go. */
        void drop(int n) {
            int gone = n < 0 ? 0 : n > size ? size : n;
            for (int i = gone; i < size; i++) {
                row[i - gone] = row[i];
            }
            size -= gone;
        }

        void start(int type, long tag) {
            size = 0;
            put(0, 4);
            put(type, 1);
            put(tag, 2);
        }

        void putString(String text) {
            put(text.length(), 2);
            addText(text);
        }

        void finish() {
            replace(0, size, 4);
        }
    }

    /** A file of a server. */
    private static final class Node {
        static final int FILE = 0, CONS = 1, STATUS = 2, CTL = 3;

        final Bytes name = new Bytes(NAME_BYTES);
        Node parent;
        Process shown;
        int device;
        int path;
        int version;
        int mode;
        int uid;
        int gid;
        int muid;
        int length;
        /** Most files stay without bytes, so the row is made with the first one, and kept. */
        byte[] content;

        void become(int newPath, Node directory, int newMode, int user) {
            path = newPath;
            parent = directory;
            mode = newMode;
            uid = user;
            gid = user;
            muid = user;
            version = 0;
            length = 0;
            device = FILE;
            shown = null;
        }

        boolean isDirectory() {
            return (mode & DIRECTORY) != 0;
        }

        boolean onlyGrows() {
            return (mode & GROWS) != 0;
        }

        int kind() {
            return (mode & DIRECTORY) != 0 ? 128 : (mode & GROWS) != 0 ? 64 : 0;
        }

        boolean lets(int user, int bits) {
            int shift = user == uid ? 6 : user == gid ? 3 : 0;
            return (mode >> shift & bits) == bits;
        }

        void grew(int user) {
            version++;
            muid = user;
        }

        int statSize() {
            return STAT_BYTES + name.size();
        }
    }

    /** What a connection calls a file by. */
    private static final class Fid {
        boolean used;
        long number;
        int user;
        /** null: its file is GONE; the path stays to be told. */
        Node node;
        int path;
        int mode;
        boolean removes;
        long readEnd;
        int entriesRead;

        void become(long newNumber, int newUser, Node at) {
            used = true;
            number = newNumber;
            user = newUser;
            node = at;
            path = at.path;
            mode = NONE;
            removes = false;
            readEnd = 0;
            entriesRead = 0;
        }

        void open(int how, boolean forRemoval) {
            mode = how;
            removes = forRemoval;
        }
    }

    /** A file server: a TREE, or the one that shows the processes. */
    private static final class Server {
        private final Kernel kernel;
        private final boolean shows;
        /** In the order of their PATHS, which is the order in which they came. */
        private final Node[] nodes = new Node[FILES];
        private final Fid[] fids = new Fid[2 * FIDS];
        private final int[] mostSize = {MOST_SIZE, MOST_SIZE};
        private final Bytes text = new Bytes(LINE_BYTES);
        private int count;
        private int total;
        private int lastPath;
        private Bytes asked;
        private Bytes reply;
        private int connection;

        Server(Kernel owner, boolean showsProcesses) {
            kernel = owner;
            shows = showsProcesses;
            asked = text;
            reply = text;
            for (int i = 0; i < FILES; i++) {
                nodes[i] = new Node();
            }
            for (int i = 0; i < 2 * FIDS; i++) {
                fids[i] = new Fid();
            }
            nodes[0].become(0, null, DIRECTORY | (shows ? 365 : NINE), 0);
            nodes[0].name.takeText("/");
            count = 1;
            if (shows) {
                nodes[1].become(1, nodes[0], 438, 0);
                nodes[1].name.takeText("cons");
                nodes[1].device = Node.CONS;
                count = 2;
            }
        }

        int fidCount(int side) {
            int found = 0;
            for (int i = side * FIDS; i < (side + 1) * FIDS; i++) {
                if (i >= 0 && i < fids.length && fids[i].used) {
                    found++;
                }
            }
            return found;
        }

        int sizeOf(int side) {
            return side == KERNEL ? mostSize[KERNEL] : mostSize[OUTSIDE];
        }

        /** The least number below 48 that the kernel does not use here, or NONE. */
        int spareNumber() {
            long used = 0;
            for (int i = 0; i < FIDS; i++) {
                if (fids[i].used) {
                    used |= 1L << (int) fids[i].number;
                }
            }
            for (int i = 0; i < FIDS; i++) {
                if ((used >> i & 1) == 0) {
                    return i;
                }
            }
            return NONE;
        }

        Fid find(int side, long number) {
            int first = side == KERNEL ? 0 : FIDS;
            for (int i = first; i < first + FIDS; i++) {
                if (fids[i].used && fids[i].number == number) {
                    return fids[i];
                }
            }
            return null;
        }

        private Fid spareFid() {
            int first = connection == KERNEL ? 0 : FIDS;
            for (int i = first; i < first + FIDS; i++) {
                if (!fids[i].used) {
                    return fids[i];
                }
            }
            return null;
        }

        private Fid leastFid() {
            int first = connection == KERNEL ? 0 : FIDS;
            Fid least = null;
            for (int i = first; i < first + FIDS; i++) {
                if (fids[i].used && (least == null || fids[i].number < least.number)) {
                    least = fids[i];
                }
            }
            return least;
        }

        /**
         * A message is answered: 0, its error, or NONE if there is no answer. Where the kernel
         * had no NEW FID for a message there is none (null), and nothing is asked.
         */
        int serve(int side, Bytes message, Bytes answered) {
            if (message == null) {
                return NO_ROOM;
            }
            answered.clear();
            if (message.size() < HEAD || message.number(0, 4) != message.size()) {
                return NONE;
            }
            connection = side;
            asked = message;
            reply = answered;
            if (side == KERNEL) {
                kernel.note(message);
            }
            int kind = message.at(4);
            long tag = message.number(5, 2);
            reply.start(kind + 1, tag);
            int error = BAD_MESSAGE;
            if (message.size() <= sizeOf(side) && isWhole(kind)) {
                Fid f = kind < M_WALK ? null : find(side, message.number(HEAD, 4));
                if (kind < M_WALK) {
                    error = kind == M_VERSION ? doVersion() : kind == M_ATTACH ? doAttach() : 0;
                } else if (f == null) {
                    error = UNKNOWN_FID;
                } else {
                    switch (kind) {
                        case M_WALK: error = doWalk(f); break;
                        case M_OPEN: error = doOpen(f); break;
                        case M_CREATE: error = doCreate(f); break;
                        case M_READ: error = doRead(f); break;
                        case M_WRITE: error = doWrite(f); break;
                        case M_CLUNK: error = doClunk(f); break;
                        case M_REMOVE: error = doRemove(f); break;
                        case M_STAT: error = doStat(f); break;
                        default: error = doWstat(f); break;
                    }
                }
            }
            if (error != 0) {
                reply.start(M_ERROR, tag);
                reply.putString(errorText(error));
            }
            reply.finish();
            if (side == KERNEL) {
                kernel.note(reply);
            }
            return error;
        }

        /** Whether the type is one that is asked, and the parts end just where the message does. */
        private boolean isWhole(int kind) {
            int size = asked.size();
            switch (kind) {
                case M_VERSION: return asked.stringEnd(11) == size;
                case M_ATTACH: return asked.stringEnd(asked.stringEnd(15)) == size;
                case M_FLUSH: return size == 9;
                case M_WALK: return areNames();
                case M_OPEN: return size == 12;
                case M_CREATE: return asked.stringEnd(11) == size - 5;
                case M_READ: return size == 23;
                case M_WRITE:
                    return size >= WRITE_HEAD && asked.number(19, 4) == size - WRITE_HEAD;
                case M_CLUNK: case M_REMOVE: case M_STAT: return size == 11;
                case M_WSTAT: return isStat();
                default: return false;
            }
        }

        private boolean areNames() {
            if (asked.size() < 17) {
                return false;
            }
            int end = 17;
            int n = (int) asked.number(15, 2);
            for (int i = 0; i < n && end != NONE; i++) {
                end = asked.stringEnd(end);
            }
            return end == asked.size();
        }

        private boolean isStat() {
            int size = asked.size();
            if (size < WSTAT_AT + STAT_NAME || asked.number(11, 2) != size - WSTAT_AT
                    || asked.number(WSTAT_AT, 2) != size - WSTAT_AT - 2) {
                return false;
            }
            int end = WSTAT_AT + STAT_NAME;
            for (int i = 0; i < 4; i++) {
                end = asked.stringEnd(end);
            }
            return end == size;
        }

        private int doVersion() {
            long size = asked.number(7, 4);
            if (size < LEAST_SIZE) {
                return BAD_MESSAGE;
            }
            for (int i = 0; i < FIDS; i++) {
                Fid f = leastFid();
                if (f == null) {
                    break;
                }
                f.used = false;
                if (f.removes && refusal(f) == 0) {
                    delete(f);
                }
            }
            int most = size > MOST_SIZE ? MOST_SIZE : (int) size;
            mostSize[connection == KERNEL ? KERNEL : OUTSIDE] = most;
            reply.put(most, 4);
            reply.putString(asked.spells(13, 19, "9P2000") ? "9P2000" : "unknown");
            return 0;
        }

        private int doAttach() {
            long number = asked.number(7, 4);
            if (find(connection, number) != null) {
                return FID_IN_USE;
            }
            if (asked.number(11, 4) != ALL_ONES) {
                return BAD_MESSAGE;
            }
            int user = userTold();
            if (user == NONE) {
                return UNKNOWN_USER;
            }
            if (asked.stringEnd(15) + 2 != asked.size()) {
                return NO_FILE;
            }
            Fid f = spareFid();
            if (f == null) {
                return NO_ROOM;
            }
            f.become(number, user, nodes[0]);
            putQid(nodes[0]);
            return 0;
        }

        private int userTold() {
            for (int i = 0; i < USERS; i++) {
                if (asked.number(15, 2) == 3 && asked.number(17, 3) == USER_NAMES[i]) {
                    return i;
                }
            }
            return NONE;
        }

        private int doWalk(Fid f) {
            if (f.mode != NONE) {
                return FID_IS_OPEN;
            }
            long number = asked.number(11, 4);
            Fid to = find(connection, number);
            if (to != null && to != f) {
                return FID_IN_USE;
            }
            int n = (int) asked.number(15, 2);
            if (n > 8) {
                return BAD_MESSAGE;
            }
            to = to == null ? spareFid() : to;
            if (to == null) {
                return NO_ROOM;
            }
            if (f.node == null) {
                return NO_FILE;
            }
            reply.put(n, 2);
            Node at = f.node;
            int start = 17;
            int done = 0;
            int error = 0;
            for (int i = 0; i < n && error == 0; i++) {
                int end = asked.stringEnd(start);
                Node next = null;
                if (!at.isDirectory()) {
                    error = NOT_DIRECTORY;
                } else if (!at.lets(f.user, EXECUTE)) {
                    error = DENIED;
                } else {
                    next = entry(at, start + 2, end);
                    error = next == null ? NO_FILE : 0;
                }
                if (next != null) {
                    at = next;
                    putQid(at);
                    start = end;
                    done++;
                }
            }
            if (done == n) {
                to.become(number, f.user, at);
                return 0;
            }
            reply.replace(HEAD, done, 2);
            return done == 0 ? error : 0;
        }

        /** What a directory has by the name that stands there in the message, or null. */
        private Node entry(Node directory, int start, int end) {
            if (asked.areDots(start, end, 2)) {
                return directory.parent == null ? directory : directory.parent;
            }
            for (int i = 0; i < count; i++) {
                if (nodes[i].parent == directory && asked.matches(start, end, nodes[i].name)) {
                    return nodes[i];
                }
            }
            return null;
        }

        private void putQid(Node n) {
            reply.put(n.kind(), 1);
            reply.put(n.version, 4);
            reply.put(n.path, 8);
        }

        private int doOpen(Fid f) {
            if (f.mode != NONE) {
                return FID_IS_OPEN;
            }
            if (f.node == null) {
                return NO_FILE;
            }
            int mode = asked.at(11);
            int error = openRefusal(f.node, f.user, mode);
            if (error != 0) {
                return error;
            }
            if ((mode & EMPTIES) != 0 && !shows && !f.node.onlyGrows()) {
                resize(f.node, 0);
                f.node.grew(f.user);
            }
            f.open(mode & ~(EMPTIES | REMOVES), (mode & REMOVES) != 0);
            putQid(f.node);
            reply.put(0, 4);
            return 0;
        }

        private int openRefusal(Node n, int user, int mode) {
            int how = mode & ~(EMPTIES | REMOVES);
            if (how < 0 || how >= NEEDS.length) {
                return BAD_MODE;
            }
            if (n.isDirectory() && (mode & ~REMOVES) != 0) {
                return IS_DIRECTORY;
            }
            if (!n.lets(user, NEEDS[how]) || (mode & EMPTIES) != 0 && !n.lets(user, WRITE)) {
                return DENIED;
            }
            // The ROOT has no directory, so there is none that a user may write.
            boolean keeps = shows || n.parent == null || !n.parent.lets(user, WRITE);
            return (mode & REMOVES) != 0 && keeps ? DENIED : 0;
        }

        private int doCreate(Fid f) {
            if (f.mode != NONE) {
                return FID_IS_OPEN;
            }
            Node directory = f.node;
            if (directory == null) {
                return NO_FILE;
            }
            if (!directory.isDirectory()) {
                return NOT_DIRECTORY;
            }
            int end = asked.stringEnd(11);
            int error = shows ? DENIED : !asked.isName(13, end) ? BAD_NAME
                : entry(directory, 13, end) != null ? EXISTS
                : !directory.lets(f.user, WRITE) ? DENIED
                : permRefusal(asked.number(end, 4), asked.at(end + 4));
            if (error == 0 && count >= FILES) {
                error = NO_ROOM;
            }
            if (error != 0) {
                return error;
            }
            int perm = (int) asked.number(end, 4);
            int bits = perm & directory.mode & NINE;
            if (perm >= 0) {
                bits |= perm & EXECUTE_BITS;
            }
            lastPath++;
            Node made = insert(lastPath, directory, perm & ~NINE | bits, f.user);
            made.name.take(asked, 13, end);
            made.gid = directory.gid;
            directory.grew(f.user);
            int mode = asked.at(end + 4);
            f.become(f.number, f.user, made);
            f.open(mode & ~REMOVES, (mode & REMOVES) != 0);
            putQid(made);
            reply.put(0, 4);
            return 0;
        }

        private static int permRefusal(long perm, int mode) {
            boolean directory = (perm >> 31 & 1) != 0;
            boolean grows = (perm >> 30 & 1) != 0;
            if ((perm & 0x3FFFFE00L) != 0 || directory && grows || (mode & ~REMOVES) > 3) {
                return BAD_MODE;
            }
            return directory && (mode & ~REMOVES) != 0 ? IS_DIRECTORY : 0;
        }

        /** The first spare Node, where its PATH puts it; the caller has seen that there is one. */
        private Node insert(int path, Node directory, int mode, int user) {
            if (count >= FILES) {
                return nodes[FILES - 1];
            }
            Node made = nodes[count];
            int at = count;
            while (at > 0 && nodes[at - 1].path > path) {
                nodes[at] = nodes[at - 1];
                at--;
            }
            nodes[at] = made;
            count++;
            made.become(path, directory, mode, user);
            return made;
        }

        private int doRead(Fid f) {
            if (f.mode == NONE || f.mode == WRITE_ONLY) {
                return FID_NOT_OPEN;
            }
            Node n = f.node;
            if (n == null) {
                return NO_FILE;
            }
            long most = asked.number(19, 4);
            if (most > sizeOf(connection) - READ_HEAD) {
                return BAD_MESSAGE;
            }
            long offset = asked.number(11, 8);
            reply.put(0, 4);
            if (!n.isDirectory()) {
                tellBytes(n, offset, (int) most);
            } else if (offset != 0 && offset != f.readEnd) {
                return BAD_OFFSET;
            } else {
                int skipped = offset == 0 ? 0 : f.entriesRead;
                int seen = 0;
                f.entriesRead = skipped;
                for (int i = 0; i < count; i++) {
                    if (nodes[i].parent != n) {
                        continue;
                    }
                    seen++;
                    if (seen > skipped) {
                        if (reply.size() - READ_HEAD + nodes[i].statSize() > most) {
                            break;
                        }
                        putStat(nodes[i]);
                        f.entriesRead++;
                    }
                }
                f.readEnd = offset + reply.size() - READ_HEAD;
            }
            reply.replace(HEAD, reply.size() - READ_HEAD, 4);
            return 0;
        }

        private void tellBytes(Node n, long offset, int most) {
            if (n.device == Node.CONS) {
                int taken = Math.min(most, kernel.input.size());
                reply.addAll(kernel.input, 0, taken);
                kernel.input.drop(taken);
            } else if (n.device == Node.STATUS && n.shown != null) {
                text.clear();
                text.put(userName(n.shown.user), 3);
                text.add(' ');
                text.addNumber(n.shown.openCount());
                text.add(' ');
                text.addNumber(n.shown.group.count);
                text.add('\n');
                if (offset >= 0 && offset < text.size()) {
                    reply.addAll(text, (int) offset, Math.min((int) offset + most, text.size()));
                }
            } else if (n.content != null && offset >= 0 && offset < n.length) {
                int end = Math.min((int) offset + most, n.length);
                for (int i = (int) offset; i < end && i < n.content.length; i++) {
                    reply.add(n.content[i]);
                }
            }
        }

        private void putStat(Node n) {
            reply.put(STAT_BYTES + n.name.size() - 2, 2);
            reply.put(0, 2);
            reply.put(0, 4);
            reply.put(n.kind(), 1);
            reply.put(n.version, 4);
            reply.put(n.path, 8);
            reply.put(n.mode, 4);
            reply.put(0, 8);
            reply.put(n.length, 8);
            reply.put(n.name.size(), 2);
            reply.addAll(n.name, 0, n.name.size());
            reply.put(3, 2);
            reply.put(userName(n.uid), 3);
            reply.put(3, 2);
            reply.put(userName(n.gid), 3);
            reply.put(3, 2);
            reply.put(userName(n.muid), 3);
        }

        private int doWrite(Fid f) {
            if (f.mode != WRITE_ONLY && f.mode != READ_WRITE) {
                return FID_NOT_OPEN;
            }
            Node n = f.node;
            if (n == null) {
                return NO_FILE;
            }
            int error = n.device == Node.FILE ? writeBytes(n, f.user) : writeDevice(n);
            if (error == 0) {
                reply.put(asked.size() - WRITE_HEAD, 4);
            }
            return error;
        }

        private int writeBytes(Node n, int user) {
            long offset = n.onlyGrows() ? n.length : asked.number(11, 8);
            if (offset < 0 || offset > n.length) {
                return BAD_OFFSET;
            }
            int written = asked.size() - WRITE_HEAD;
            int end = (int) offset + written;
            if (exceeds(n, Math.max(end, n.length))) {
                return NO_ROOM;
            }
            if (written > 0) {
                resize(n, Math.max(end, n.length));
                n.grew(user);
            }
            for (int i = (int) offset; i < end && n.content != null && i < n.content.length; i++) {
                n.content[i] = (byte) asked.at(WRITE_HEAD + i - (int) offset);
            }
            return 0;
        }

        private int writeDevice(Node n) {
            int size = asked.size();
            if (n.device == Node.CONS) {
                kernel.console.addAll(asked, WRITE_HEAD, size);
                return 0;
            }
            int end = asked.at(size - 1) == '\n' ? size - 1 : size;
            if (n.shown == null || !asked.spells(WRITE_HEAD, end, "kill")) {
                return BAD_MESSAGE;
            }
            n.shown.leaving = true;
            return 0;
        }

        /** Whether a file of so many bytes would be too much for itself or for the TREE. */
        private boolean exceeds(Node n, long length) {
            return length < 0 || length > FILE_BYTES || total - n.length + length > TREE_BYTES;
        }

        /** Bytes that come are 0. */
        private void resize(Node n, int length) {
            if (n.content == null && length > 0) {
                n.content = new byte[FILE_BYTES];
            }
            for (int i = n.length; i < length && i < FILE_BYTES; i++) {
                if (n.content != null) {
                    n.content[i] = 0;
                }
            }
            total += length - n.length;
            n.length = length;
        }

        private int doClunk(Fid f) {
            f.used = false;
            if (f.removes && refusal(f) == 0) {
                delete(f);
            }
            return 0;
        }

        private int doRemove(Fid f) {
            f.used = false;
            int error = refusal(f);
            if (error == 0) {
                delete(f);
            }
            return error;
        }

        /** Why the file of a fid may not be removed, or 0. */
        private int refusal(Fid f) {
            Node n = f.node;
            if (n == null) {
                return NO_FILE;
            }
            if (shows || n.parent == null || !n.parent.lets(f.user, WRITE)) {
                return DENIED;
            }
            for (int i = 0; i < count; i++) {
                if (nodes[i].parent == n) {
                    return NOT_EMPTY;
                }
            }
            return 0;
        }

        private void delete(Fid f) {
            Node n = f.node;
            if (n != null && n.parent != null) {
                n.parent.grew(f.user);
                takeOut(n);
            }
        }

        /** A file is GONE: fids stay where it was, and its Node waits for the next file. */
        private void takeOut(Node n) {
            for (int i = 0; i < fids.length; i++) {
                if (fids[i].node == n) {
                    fids[i].node = null;
                }
            }
            int kept = 0;
            for (int i = 0; i < count; i++) {
                if (nodes[i] != n) {
                    nodes[kept] = nodes[i];
                    kept++;
                }
            }
            if (kept < count) {
                count = kept;
                nodes[count] = n;
                total -= n.length;
                n.length = 0;
                n.parent = null;
                n.shown = null;
            }
        }

        private int doStat(Fid f) {
            if (f.node == null) {
                return NO_FILE;
            }
            reply.put(f.node.statSize(), 2);
            putStat(f.node);
            return 0;
        }

        private int doWstat(Fid f) {
            Node n = f.node;
            if (n == null) {
                return NO_FILE;
            }
            int start = WSTAT_AT + STAT_NAME;
            int end = asked.stringEnd(start);
            int times = WSTAT_AT + STAT_TIMES;
            boolean named = end > start + 2;
            boolean sized = !asked.allOnes(WSTAT_AT + STAT_LENGTH, start);
            boolean moded = !asked.allOnes(WSTAT_AT + STAT_MODE, times);
            if (!asked.allOnes(WSTAT_AT + 2, WSTAT_AT + STAT_MODE)
                    || !asked.allOnes(times, times + 8) || end + 6 != asked.size()) {
                return DENIED;
            }
            if (!named && !sized && !moded) {
                return 0;
            }
            long length = asked.number(WSTAT_AT + STAT_LENGTH, 8);
            int mode = (int) asked.number(WSTAT_AT + STAT_MODE, 4);
            Node other = n.parent == null ? null : entry(n.parent, start + 2, end);
            int error = shows ? DENIED
                : named ? nameRefusal(n, f.user, asked.isName(start + 2, end), other) : 0;
            if (error == 0 && sized) {
                error = lengthRefusal(n, f.user, length);
            }
            if (error == 0 && moded) {
                error = modeRefusal(n, f.user, mode);
            }
            if (error != 0) {
                return error;
            }
            if (named) {
                n.name.take(asked, start + 2, end);
            }
            if (sized) {
                resize(n, (int) length);
                n.version++;
            }
            n.mode = moded ? mode : n.mode;
            n.muid = f.user;
            return 0;
        }

        private int nameRefusal(Node n, int user, boolean isName, Node other) {
            if (n.parent == null) {
                return DENIED;
            }
            if (!isName) {
                return BAD_NAME;
            }
            if (other != null && other != n) {
                return EXISTS;
            }
            return n.parent.lets(user, WRITE) ? 0 : DENIED;
        }

        private int lengthRefusal(Node n, int user, long length) {
            if (n.isDirectory()) {
                return IS_DIRECTORY;
            }
            if (!n.lets(user, WRITE)) {
                return DENIED;
            }
            return exceeds(n, length) ? NO_ROOM : 0;
        }

        private static int modeRefusal(Node n, int user, int mode) {
            if (user != n.uid) {
                return DENIED;
            }
            int mayChange = n.isDirectory() ? NINE : NINE | GROWS;
            return ((mode ^ n.mode) & ~mayChange) != 0 ? BAD_MODE : 0;
        }

        /** A process comes: its directory, status and ctl. */
        void show(Process p) {
            int path = 16 * p.number + 16;
            Node directory = insert(path, nodes[0], DIRECTORY | 365, p.user);
            directory.name.clear();
            directory.name.addNumber(p.number);
            directory.shown = p;
            Node status = insert(path + 1, directory, 292, p.user);
            status.name.takeText("status");
            status.shown = p;
            status.device = Node.STATUS;
            Node ctl = insert(path + 2, directory, 128, p.user);
            ctl.name.takeText("ctl");
            ctl.shown = p;
            ctl.device = Node.CTL;
        }

        /** A process goes; the last files first, so that none is left without its directory. */
        void hide(Process p) {
            for (int i = count - 1; i >= 0; i--) {
                if (nodes[i].shown == p) {
                    takeOut(nodes[i]);
                }
            }
        }
    }

    /**
     * What the kernel has of a fid: a CHANNEL with its QID; with whether to create in it, a
     * MEMBER; with an offset and how many DESCRIPTORS are it, an opening.
     */
    private static final class Channel {
        int server;
        int fid;
        int path;
        boolean directory;
        /** Whose it is, if a walk went THROUGH a POINT at its end. */
        Point point;
        boolean create;
        int offset;
        int holders;

        void become(int newServer, int newFid, int newPath, boolean isDirectory) {
            server = newServer;
            fid = newFid;
            path = newPath;
            directory = isDirectory;
            point = null;
            create = false;
            offset = 0;
            holders = 0;
        }
    }

    /** Where a GROUP has other files than the server has there: the union of its MEMBERS. */
    private static final class Point {
        private final Channel[] members = new Channel[MEMBERS];
        int server;
        int path;
        int count;

        Point() {
            for (int i = 0; i < MEMBERS; i++) {
                members[i] = new Channel();
            }
        }

        Channel memberOf(int j) {
            return j < 0 || j >= count || j >= MEMBERS ? null : members[j];
        }

        /** A MEMBER at place j, as a fid that another channel's file was walked to. */
        void insert(int j, Channel like, int fid, boolean create) {
            if (count >= MEMBERS || j < 0 || j > count) {
                return;
            }
            Channel made = members[count];
            for (int i = count; i > j; i--) {
                members[i] = members[i - 1];
            }
            members[j] = made;
            count++;
            made.become(like.server, fid, like.path, like.directory);
            made.create = create;
        }

        /** The first MEMBER to create in, or null. */
        Channel memberToCreate() {
            for (int j = 0; j < count && j < MEMBERS; j++) {
                if (members[j].create) {
                    return members[j];
                }
            }
            return null;
        }

        void remove(int j) {
            if (j < 0 || j >= count || j >= MEMBERS) {
                return;
            }
            Channel gone = members[j];
            count--;
            for (int i = j; i < count; i++) {
                members[i] = members[i + 1];
            }
            members[count] = gone;
        }
    }

    /** The POINTS that its processes share. */
    private static final class Group {
        private final Point[] points = new Point[POINTS];
        int count;
        int holders;

        Group() {
            for (int i = 0; i < POINTS; i++) {
                points[i] = new Point();
            }
        }

        Point pointOf(int k) {
            return k < 0 || k >= count || k >= POINTS ? null : points[k];
        }

        Point pointAt(int server, int path) {
            for (int i = 0; i < count && i < POINTS; i++) {
                if (points[i].server == server && points[i].path == path) {
                    return points[i];
                }
            }
            return null;
        }

        /** A new POINT without MEMBERS; the caller has seen that there is room for it. */
        Point add(int server, int path) {
            Point made = points[count < POINTS ? count : POINTS - 1];
            count += count < POINTS ? 1 : 0;
            made.server = server;
            made.path = path;
            made.count = 0;
            return made;
        }

        void remove(Point gone) {
            int kept = 0;
            for (int i = 0; i < count && i < POINTS; i++) {
                if (points[i] != gone) {
                    points[kept] = points[i];
                    kept++;
                }
            }
            if (kept < count) {
                count = kept;
                points[kept] = gone;
            }
        }
    }

    private static final class Process {
        final int number;
        final Bytes dot = new Bytes(PATH_BYTES);
        final Bytes out = new Bytes(1000);
        private final Bytes[] variables = new Bytes[VARIABLES];
        private final Channel[] openings = new Channel[DESCRIPTORS];
        boolean living;
        boolean leaving;
        int user;
        int root;
        Group group;

        Process(int itsNumber, Group first) {
            number = itsNumber;
            group = first;
            for (int i = 0; i < VARIABLES; i++) {
                variables[i] = new Bytes(VARIABLE_BYTES);
            }
        }

        void begin(int itsUser, int itsRoot, Group itsGroup) {
            living = true;
            leaving = false;
            user = itsUser;
            root = itsRoot;
            group = itsGroup;
            group.holders++;
            dot.clear();
            dot.add('/');
            out.clear();
            for (int i = 0; i < VARIABLES; i++) {
                variables[i].clear();
            }
        }

        /** DOT, VARIABLES and openings are as those of the process that forks. */
        void follow(Process other) {
            dot.take(other.dot, 0, other.dot.size());
            for (int i = 0; i < VARIABLES; i++) {
                variables[i].addAll(other.variables[i], 0, other.variables[i].size());
            }
            for (int d = 0; d < DESCRIPTORS; d++) {
                openings[d] = other.openings[d];
                if (openings[d] != null) {
                    openings[d].holders++;
                }
            }
        }

        Bytes variableOf(int x) {
            return x < 0 || x >= VARIABLES ? null : variables[x];
        }

        Channel openingOf(int d) {
            return d < 0 || d >= DESCRIPTORS ? null : openings[d];
        }

        void setOpening(int d, Channel opening) {
            if (d >= 0 && d < DESCRIPTORS) {
                openings[d] = opening;
            }
        }

        /** The least free DESCRIPTOR, or NONE. */
        int spareDescriptor() {
            for (int d = 0; d < DESCRIPTORS; d++) {
                if (openings[d] == null) {
                    return d;
                }
            }
            return NONE;
        }

        int openCount() {
            int open = 0;
            for (int d = 0; d < DESCRIPTORS; d++) {
                open += openings[d] == null ? 0 : 1;
            }
            return open;
        }
    }

    /** What asks the servers: it keeps the messages, the processes and their GROUPS, and walks. */
    private static final class Kernel {
        final Bytes input = new Bytes(200);
        final Bytes console = new Bytes(1000);
        final Bytes reply = new Bytes(MOST_SIZE);
        int messages;
        long sum = -3750763034362895579L;
        /** The NEW FID of the message that was made last. */
        int fresh;
        /** How many NAMES the PATH that was read last has, and that PATH made plain. */
        int names;
        final Bytes plain = new Bytes(PATH_BYTES);

        private final Bytes request = new Bytes(MOST_SIZE);
        private final Bytes[] latest = new Bytes[LATEST];
        private final Server[] servers = new Server[SERVERS];
        private final Process[] processes = new Process[PROCESSES];
        private final Group[] groups = new Group[PROCESSES];
        private final Channel[] openings = new Channel[PROCESSES * DESCRIPTORS];
        /** The PATH as it is read, behind DOT if it is from there, and where its NAMES are. */
        private final Bytes whole = new Bytes(PATH_BYTES + 1 + LINE_BYTES);
        private final int[] nameStarts = new int[LINE_BYTES];
        private final int[] nameEnds = new int[LINE_BYTES];
        /** The server whose # the PATH begins with, or NONE for the process's root. */
        private int home;

        Kernel() {
            for (int i = 0; i < LATEST; i++) {
                latest[i] = new Bytes(MOST_SIZE);
            }
            for (int i = 0; i < PROCESSES; i++) {
                groups[i] = new Group();
                processes[i] = new Process(i, groups[i]);
            }
            for (int i = 0; i < openings.length; i++) {
                openings[i] = new Channel();
            }
        }

        /** The servers need the kernel, so they come behind it; they are asked their versions. */
        void meet(Server zero, Server one, Server two) {
            servers[0] = zero;
            servers[1] = one;
            servers[2] = two;
            for (int i = 0; i < SERVERS; i++) {
                request.start(M_VERSION, 65535);
                request.put(KERNEL_SIZE, 4);
                request.putString("9P2000");
                request.finish();
                servers[i].serve(KERNEL, request, reply);
            }
        }

        Server host(int server) {
            return servers[server < 0 || server >= SERVERS ? 0 : server];
        }

        void note(Bytes message) {
            Bytes kept = latest[messages % LATEST];
            kept.take(message, 0, message.size());
            messages++;
            long all = sum;
            for (int i = 0; i < message.size(); i++) {
                all = (all ^ message.at(i)) * 1099511628211L;
            }
            sum = all;
        }

        Bytes kept(int k) {
            return k < 0 || k >= messages || k < messages - LATEST ? null : latest[k % LATEST];
        }

        private void start(int kind, int fid) {
            request.start(kind, 1);
            request.put(fid, 4);
        }

        /** The message that is about a fid and tells no more. */
        Bytes about(int kind, int fid) {
            start(kind, fid);
            request.finish();
            return request;
        }

        /** An attach to a NEW FID; null without one. */
        Bytes attaching(int server, int user) {
            fresh = host(server).spareNumber();
            start(M_ATTACH, fresh);
            request.put(ALL_ONES, 4);
            request.put(3, 2);
            request.put(userName(user), 3);
            request.put(0, 2);
            request.finish();
            return fresh == NONE ? null : request;
        }

        /** A walk to a NEW FID, of one name of the PATH or (NONE) of none; null without one. */
        Bytes walking(int server, int fid, int name) {
            fresh = host(server).spareNumber();
            start(M_WALK, fid);
            request.put(fresh, 4);
            request.put(name == NONE ? 0 : 1, 2);
            if (name != NONE) {
                putName(name);
            }
            request.finish();
            return fresh == NONE ? null : request;
        }

        private void putName(int name) {
            if (name >= 0 && name < names && name < nameStarts.length) {
                request.put(nameEnds[name] - nameStarts[name], 2);
                request.addAll(whole, nameStarts[name], nameEnds[name]);
            }
        }

        Bytes opening(int fid, int mode) {
            start(M_OPEN, fid);
            request.put(mode, 1);
            request.finish();
            return request;
        }

        /** A create of the last name of the PATH. */
        Bytes creating(int fid, long perm, int mode) {
            start(M_CREATE, fid);
            putName(names - 1);
            request.put(perm, 4);
            request.put(mode, 1);
            request.finish();
            return request;
        }

        Bytes reading(int fid, long offset, int most) {
            start(M_READ, fid);
            request.put(offset, 8);
            request.put(most, 4);
            request.finish();
            return request;
        }

        Bytes writing(int fid, long offset, Bytes from, int start, int end) {
            start(M_WRITE, fid);
            request.put(offset, 8);
            request.put(end - start, 4);
            request.addAll(from, start, end);
            request.finish();
            return request;
        }

        /** A wstat that tells MODE or LENGTH (not if all bits are 1) or a name (not if empty). */
        Bytes telling(int fid, long mode, long length, Bytes from, int start, int end) {
            int size = STAT_NAME + 8 + end - start;
            start(M_WSTAT, fid);
            request.put(size, 2);
            request.put(size - 2, 2);
            request.put(-1, 6);
            request.put(-1, 8);
            request.put(-1, 5);
            request.put(mode, 4);
            request.put(-1, 8);
            request.put(length, 8);
            request.put(end - start, 2);
            request.addAll(from, start, end);
            request.put(0, 6);
            request.finish();
            return request;
        }

        int clunk(Channel c) {
            return host(c.server).serve(KERNEL, about(M_CLUNK, c.fid), reply);
        }

        /** A channel to where another one is: a walk of 0 names to a NEW FID. */
        int copy(Channel from, Channel to) {
            int error = host(from.server).serve(KERNEL,
                walking(from.server, from.fid, NONE), reply);
            if (error == 0) {
                to.become(from.server, fresh, from.path, from.directory);
            }
            return error;
        }

        /** The PATH that a word of a command is, its NAMES and it itself made plain; or 5. */
        int readPath(Process p, Command c, int word) {
            int start = c.startOf(word);
            int end = c.endOf(word);
            int first = c.text.at(start);
            names = 0;
            home = NONE;
            whole.clear();
            if (start >= end) {
                return BAD_NAME;
            }
            if (first != '/' && first != '#') {
                whole.addAll(p.dot, 0, p.dot.size());
                whole.add('/');
            }
            whole.addAll(c.text, start, end);
            int behind = 1;
            if (whole.at(0) == '#') {
                home = whole.at(1) - '0';
                behind = 2;
                if (home < 0 || home >= SERVERS || whole.at(2) != NONE && whole.at(2) != '/') {
                    return BAD_NAME;
                }
            }
            for (int i = behind; i <= whole.size(); i++) {
                if (i == whole.size() || whole.at(i) == '/') {
                    takeName(behind, i);
                    behind = i + 1;
                }
            }
            return names <= PATH_NAMES && makePlain() ? 0 : BAD_NAME;
        }

        private void takeName(int start, int end) {
            if (whole.areDots(start, end, 2)) {
                names -= names > 0 ? 1 : 0;
            } else if (start < end && !whole.areDots(start, end, 1) && names < LINE_BYTES) {
                nameStarts[names] = start;
                nameEnds[names] = end;
                names++;
            }
        }

        /** Whether the plain PATH has no more bytes than a PATH may have. */
        private boolean makePlain() {
            plain.clear();
            plain.add(home == NONE ? '/' : '#');
            boolean fits = home == NONE || plain.add('0' + home);
            for (int i = 0; i < names && i < nameStarts.length && fits; i++) {
                fits = home == NONE && i == 0 || plain.add('/');
                fits = fits && plain.addAll(whole, nameStarts[i], nameEnds[i]);
            }
            return fits;
        }

        /**
         * TO WALK the PATH that was read last, so many NAMES of it. At an error no channel is
         * left.
         */
        int walk(Process p, Channel c, int most, boolean through) {
            int at = home == NONE ? 0 : home;
            int error = host(at).serve(KERNEL,
                home == NONE ? walking(0, p.root, NONE) : attaching(at, p.user), reply);
            if (error != 0) {
                return error;
            }
            c.become(at, fresh, 0, true);
            for (int i = 0; i < most && error == 0; i++) {
                int server = c.server;
                int fid = c.fid;
                Point point = p.group.pointAt(server, c.path);
                int tries = point == null ? 1 : point.count;
                error = NO_FILE;
                for (int j = 0; j < tries && error != 0; j++) {
                    Channel from = point == null ? c : point.memberOf(j);
                    if (from != null) {
                        error = host(from.server).serve(KERNEL,
                            walking(from.server, from.fid, i), reply);
                        if (error == 0) {
                            c.become(from.server, fresh, (int) reply.number(14, 4),
                                reply.at(9) == 128);
                        }
                    }
                }
                host(server).serve(KERNEL, about(M_CLUNK, fid), reply);
            }
            Point end = through && error == 0 ? p.group.pointAt(c.server, c.path) : null;
            Channel first = end == null ? null : end.memberOf(0);
            if (first != null) {
                error = host(first.server).serve(KERNEL,
                    walking(first.server, first.fid, NONE), reply);
                int fid = fresh;
                host(c.server).serve(KERNEL, about(M_CLUNK, c.fid), reply);
                c.become(first.server, fid, first.path, first.directory);
                c.point = end;
            }
            return error;
        }

        /** The PATH that a word is, read and walked whole. */
        int reach(Process p, Command c, int word, Channel to, boolean through) {
            int error = readPath(p, c, word);
            return error == 0 ? walk(p, to, names, through) : error;
        }

        Process living(int number) {
            boolean is = number >= 0 && number < PROCESSES && processes[number].living;
            return is ? processes[number] : null;
        }

        Process spareProcess() {
            for (int i = 0; i < PROCESSES; i++) {
                if (!processes[i].living) {
                    return processes[i];
                }
            }
            return null;
        }

        /** There are as many GROUPS as processes, so one is spare where a process is. */
        Group spareGroup() {
            for (int i = 0; i < PROCESSES; i++) {
                if (groups[i].holders == 0) {
                    groups[i].count = 0;
                    return groups[i];
                }
            }
            return groups[0];
        }

        Channel spareOpening() {
            for (int i = 0; i < openings.length; i++) {
                if (openings[i].holders == 0) {
                    return openings[i];
                }
            }
            return openings[0];
        }

        /** A process of a user, that has logged in: its number, or what login answers else. */
        int admit(int user) {
            Process p = spareProcess();
            if (p == null) {
                return FULL;
            }
            int error = host(0).serve(KERNEL, attaching(0, user), reply);
            if (error != 0) {
                return -error;
            }
            p.begin(user, fresh, spareGroup());
            host(SHOWING).show(p);
            return p.number;
        }

        /** What is to go does so. */
        void letGo() {
            for (int i = 0; i < PROCESSES; i++) {
                if (processes[i].living && processes[i].leaving) {
                    end(processes[i]);
                }
            }
        }

        private void end(Process p) {
            for (int d = 0; d < DESCRIPTORS; d++) {
                close(p, d);
            }
            p.group.holders--;
            if (p.group.holders == 0) {
                for (int k = 0; k < p.group.count; k++) {
                    clunkMembers(p.group.pointOf(k));
                }
                p.group.count = 0;
            }
            host(0).serve(KERNEL, about(M_CLUNK, p.root), reply);
            p.living = false;
            p.leaving = false;
            host(SHOWING).hide(p);
        }

        void close(Process p, int d) {
            Channel opening = p.openingOf(d);
            if (opening == null) {
                return;
            }
            p.setOpening(d, null);
            opening.holders--;
            if (opening.holders == 0) {
                host(opening.server).serve(KERNEL, about(M_CLUNK, opening.fid), reply);
            }
        }

        /** The MEMBERS of a POINT go, the first one first. */
        void clunkMembers(Point point) {
            for (int j = 0; point != null && j < point.count; j++) {
                Channel m = point.memberOf(j);
                if (m != null) {
                    host(m.server).serve(KERNEL, about(M_CLUNK, m.fid), reply);
                }
            }
            if (point != null) {
                point.count = 0;
            }
        }

        /** All MEMBERS of a GROUP, each by a NEW FID, in a new one; at an error none of them. */
        int copyGroup(Group from, Group to) {
            int error = 0;
            for (int k = 0; k < from.count && error == 0; k++) {
                Point point = from.pointOf(k);
                if (point == null) {
                    break;
                }
                Point made = to.add(point.server, point.path);
                for (int j = 0; j < point.count && error == 0; j++) {
                    Channel m = point.memberOf(j);
                    if (m != null) {
                        error = host(m.server).serve(KERNEL,
                            walking(m.server, m.fid, NONE), reply);
                        if (error == 0) {
                            made.insert(j, m, fresh, m.create);
                        }
                    }
                }
            }
            for (int k = to.count - 1; k >= 0 && error != 0; k--) {
                clunkBack(to.pointOf(k));
            }
            to.count = error == 0 ? to.count : 0;
            return error;
        }

        /** The MEMBERS of a POINT that does not come about, the latest first. */
        private void clunkBack(Point point) {
            for (int j = point == null ? NONE : point.count - 1; j >= 0; j--) {
                Channel m = point.memberOf(j);
                if (m != null) {
                    host(m.server).serve(KERNEL, about(M_CLUNK, m.fid), reply);
                }
            }
        }
    }

    /** A line that is done, or is to be done, as a command. */
    private static final class Command {
        static final int EMPTY = 0, CD = 1, CAT = 2, LS = 3, ECHO = 4, MKDIR = 5, CREATE = 6,
            RM = 7, MV = 8, SIZE = 9, CHMOD = 10, STAT = 11, OPEN = 12, READ = 13, WRITE = 14,
            SEEK = 15, CLOSE = 16, BIND = 17, MOUNT = 18, UNMOUNT = 19, FORK = 20, EXIT = 21,
            SET = 22, IF = 23, FOR = 24, RUN = 25, OTHER = 26;
        static final int BEFORE = 1, BEHIND = 2, TO_CREATE = 4;

        final Bytes text = new Bytes(LINE_BYTES);
        final Bytes script = new Bytes(FILE_BYTES);
        private final int[] starts = new int[LINE_BYTES];
        private final int[] ends = new int[LINE_BYTES];
        int words;
        /** IF, FOR or RUN while it does other commands, else EMPTY. */
        int doing;
        /** Of a FOR its next word, of a RUN where in the SCRIPT the next line begins. */
        int next;
        /** Of a FOR its word C. */
        int body;
        /** Whether the error of the command that it does just now does not count. */
        boolean forgives;

        void split() {
            words = 0;
            doing = EMPTY;
            forgives = false;
            int start = 0;
            for (int i = 0; i <= text.size(); i++) {
                if (i < text.size() && text.at(i) != ' ') {
                    continue;
                }
                if (i > start && words < starts.length) {
                    starts[words] = start;
                    ends[words] = i;
                    words++;
                }
                start = i + 1;
            }
        }

        int startOf(int word) {
            return word < 0 || word >= words || word >= starts.length ? 0 : starts[word];
        }

        int endOf(int word) {
            return word < 0 || word >= words || word >= ends.length ? 0 : ends[word];
        }

        int lengthOf(int word) {
            return endOf(word) - startOf(word);
        }

        boolean is(int word, String spelling) {
            return word < words && text.spells(startOf(word), endOf(word), spelling);
        }

        boolean areAlike(int word, int other) {
            int n = lengthOf(word);
            boolean alike = n == lengthOf(other);
            for (int i = 0; i < n && alike; i++) {
                alike = text.at(startOf(word) + i) == text.at(startOf(other) + i);
            }
            return alike;
        }

        int verb() {
            return words == 0 ? EMPTY : is(0, "cd") ? CD : is(0, "cat") ? CAT : is(0, "ls") ? LS
                : is(0, "echo") ? ECHO : is(0, "mkdir") ? MKDIR : is(0, "create") ? CREATE
                : is(0, "rm") ? RM : is(0, "mv") ? MV : is(0, "size") ? SIZE
                : is(0, "chmod") ? CHMOD : is(0, "stat") ? STAT : is(0, "open") ? OPEN
                : is(0, "read") ? READ : is(0, "write") ? WRITE : is(0, "seek") ? SEEK
                : is(0, "close") ? CLOSE : is(0, "bind") ? BIND : is(0, "mount") ? MOUNT
                : is(0, "unmount") ? UNMOUNT : is(0, "fork") ? FORK : is(0, "exit") ? EXIT
                : is(0, "set") ? SET : is(0, "if") ? IF : is(0, "for") ? FOR
                : is(0, "run") ? RUN : OTHER;
        }

        /** The number that a word is, of so many digits at most below the base, or NONE. */
        private int numberOf(int word, int base, int most) {
            int n = lengthOf(word);
            int number = 0;
            for (int i = 0; i < n && i < most; i++) {
                int digit = text.at(startOf(word) + i) - '0';
                if (digit < 0 || digit >= base) {
                    return NONE;
                }
                number = number * base + digit;
            }
            return n < 1 || n > most ? NONE : number;
        }

        int octal(int word) {
            return numberOf(word, 8, 3);
        }

        int decimal(int word) {
            return numberOf(word, 10, 4);
        }

        int digit(int word) {
            return numberOf(word, 8, 1);
        }

        /** Which VARIABLE a word names, or NONE. */
        int variableAt(int word) {
            int letter = text.at(startOf(word)) - 'a';
            return lengthOf(word) == 1 && letter >= 0 && letter < VARIABLES ? letter : NONE;
        }

        /** The letters of a bind behind a -, as bits, or NONE. */
        int flags(int word) {
            int start = startOf(word);
            int bits = 0;
            for (int i = start + 1; i < endOf(word); i++) {
                int b = text.at(i);
                int bit = b == 'a' ? BEHIND : b == 'b' ? BEFORE : b == 'c' ? TO_CREATE : 0;
                if (bit == 0) {
                    return NONE;
                }
                bits |= bit;
            }
            return text.at(start) != '-' || bits == 0 ? NONE : bits;
        }

        /** The words from one on, before another, go to a row with a blank between. */
        void join(Bytes to, int first, int end) {
            for (int w = first; w < end; w++) {
                if (w > first) {
                    to.add(' ');
                }
                to.addAll(text, startOf(w), endOf(w));
            }
        }
    }

    /** The commands that do no others; each answers 0 or its error. */
    private static final class Commands {
        private final Kernel kernel;
        private final Bytes text = new Bytes(LINE_BYTES + 1);
        private final Channel one = new Channel();
        private final Channel two = new Channel();
        private final Channel[] copies = new Channel[MEMBERS];
        private int copied;

        Commands(Kernel theKernel) {
            kernel = theKernel;
            for (int i = 0; i < MEMBERS; i++) {
                copies[i] = new Channel();
            }
        }

        private int send(Channel c, Bytes message) {
            return kernel.host(c.server).serve(KERNEL, message, kernel.reply);
        }

        int cd(Process p, Command c) {
            if (c.words != 2) {
                return BAD_COMMAND;
            }
            int error = kernel.reach(p, c, 1, one, true);
            if (error != 0) {
                return error;
            }
            kernel.clunk(one);
            if (!one.directory) {
                return NOT_DIRECTORY;
            }
            p.dot.take(kernel.plain, 0, kernel.plain.size());
            return 0;
        }

        int cat(Process p, Command c) {
            if (c.words != 2) {
                return BAD_COMMAND;
            }
            int error = kernel.reach(p, c, 1, one, true);
            return error == 0 ? pour(p.out) : error;
        }

        /** What cat does behind its walk. */
        private int pour(Bytes target) {
            int error = one.directory ? IS_DIRECTORY : send(one, kernel.opening(one.fid, 0));
            long offset = 0;
            for (int i = 0; i < MANY && error == 0; i++) {
                error = send(one, kernel.reading(one.fid, offset, PORTION));
                int n = error == 0 ? (int) kernel.reply.number(HEAD, 4) : 0;
                if (n == 0) {
                    break;
                }
                target.addAll(kernel.reply, READ_HEAD, READ_HEAD + n);
                offset += n;
            }
            kernel.clunk(one);
            return error;
        }

        int ls(Process p, Command c) {
            if (c.words != 2) {
                return BAD_COMMAND;
            }
            int error = kernel.reach(p, c, 1, one, true);
            if (error != 0) {
                return error;
            }
            Point point = one.point;
            if (!one.directory || point != null) {
                kernel.clunk(one);
            }
            if (!one.directory) {
                return NOT_DIRECTORY;
            }
            if (point == null) {
                return list(p.out);
            }
            for (int j = 0; j < point.count && error == 0; j++) {
                Channel m = point.memberOf(j);
                if (m != null) {
                    error = kernel.copy(m, one);
                    error = error == 0 ? list(p.out) : error;
                }
            }
            return error;
        }

        private int list(Bytes target) {
            int error = send(one, kernel.opening(one.fid, 0));
            long offset = 0;
            for (int i = 0; i < MANY && error == 0; i++) {
                error = send(one, kernel.reading(one.fid, offset, PORTION));
                int n = error == 0 ? (int) kernel.reply.number(HEAD, 4) : 0;
                if (n == 0) {
                    break;
                }
                listStats(target, READ_HEAD + n);
                offset += n;
            }
            kernel.clunk(one);
            return error;
        }

        private void listStats(Bytes target, int end) {
            Bytes reply = kernel.reply;
            int start = READ_HEAD;
            while (start + STAT_NAME + 2 <= end) {
                int name = start + STAT_NAME;
                target.addAll(reply, name + 2, reply.stringEnd(name));
                if ((reply.number(start + STAT_MODE, 4) >> 31 & 1) != 0) {
                    target.add('/');
                }
                target.add('\n');
                start += 2 + (int) reply.number(start, 2);
            }
        }

        int echo(Process p, Command c) {
            int last = c.words - 1;
            boolean more = c.words > 2 && c.is(last - 1, ">>");
            boolean redirected = more || c.words > 2 && c.is(last - 1, ">");
            text.clear();
            c.join(text, 1, redirected ? last - 1 : c.words);
            text.add('\n');
            if (!redirected) {
                p.out.addAll(text, 0, text.size());
                return 0;
            }
            long offset = 0;
            int error = kernel.reach(p, c, last, one, true);
            boolean made = error == NO_FILE;
            error = made ? make(p, c, last, 438, WRITE_ONLY) : error;
            if (error != 0) {
                return error;
            }
            if (!made) {
                error = send(one, kernel.opening(one.fid, WRITE_ONLY | (more ? 0 : EMPTIES)));
                if (error == 0 && more) {
                    error = send(one, kernel.about(M_STAT, one.fid));
                    offset = kernel.reply.number(TOLD_STAT + STAT_LENGTH, 8);
                }
            }
            for (int i = 0; i < text.size() && error == 0; i += PORTION) {
                int end = Math.min(i + PORTION, text.size());
                error = send(one, kernel.writing(one.fid, offset + i, text, i, end));
            }
            kernel.clunk(one);
            return error;
        }

        /** CREATE a PATH; the channel is open then. */
        private int make(Process p, Command c, int word, long perm, int mode) {
            int error = kernel.readPath(p, c, word);
            if (error == 0 && kernel.names == 0) {
                error = BAD_NAME;
            }
            if (error == 0) {
                error = kernel.walk(p, one, kernel.names - 1, true);
            }
            if (error != 0) {
                return error;
            }
            if (one.point != null) {
                Channel place = one.point.memberToCreate();
                kernel.clunk(one);
                error = place == null ? NO_PLACE_TO_CREATE : kernel.copy(place, one);
                if (error != 0) {
                    return error;
                }
            }
            error = send(one, kernel.creating(one.fid, perm, mode));
            if (error != 0) {
                kernel.clunk(one);
            }
            return error;
        }

        int mkdir(Process p, Command c) {
            if (c.words != 2) {
                return BAD_COMMAND;
            }
            int error = make(p, c, 1, (long) DIRECTORY | NINE, 0);
            if (error == 0) {
                kernel.clunk(one);
            }
            return error;
        }

        int create(Process p, Command c) {
            int perm = c.octal(1);
            int mode = c.digit(3);
            if (c.words != 4 || perm == NONE || mode < 0 || mode > 2) {
                return BAD_COMMAND;
            }
            if (p.spareDescriptor() == NONE) {
                return TOO_MANY;
            }
            int error = make(p, c, 2, perm, mode);
            if (error == 0) {
                settle(p);
            }
            return error;
        }

        int open(Process p, Command c) {
            int mode = c.digit(2);
            if (c.words != 3 || mode < 0 || mode > 2) {
                return BAD_COMMAND;
            }
            if (p.spareDescriptor() == NONE) {
                return TOO_MANY;
            }
            int error = kernel.reach(p, c, 1, one, true);
            if (error != 0) {
                return error;
            }
            error = send(one, kernel.opening(one.fid, mode));
            if (error == 0) {
                settle(p);
            } else {
                kernel.clunk(one);
            }
            return error;
        }

        /** The open channel becomes the least free DESCRIPTOR. */
        private void settle(Process p) {
            int d = p.spareDescriptor();
            Channel opening = kernel.spareOpening();
            opening.become(one.server, one.fid, one.path, one.directory);
            opening.holders = 1;
            p.setOpening(d, opening);
            p.out.addNumber(d);
            p.out.add('\n');
        }

        int rm(Process p, Command c) {
            if (c.words != 2) {
                return BAD_COMMAND;
            }
            int error = kernel.reach(p, c, 1, one, false);
            return error == 0 ? send(one, kernel.about(M_REMOVE, one.fid)) : error;
        }

        int mv(Process p, Command c) {
            if (c.words != 3) {
                return BAD_COMMAND;
            }
            int error = kernel.reach(p, c, 1, one, false);
            if (error == 0) {
                error = send(one,
                    kernel.telling(one.fid, -1, -1, c.text, c.startOf(2), c.endOf(2)));
                kernel.clunk(one);
            }
            return error;
        }

        int size(Process p, Command c) {
            int length = c.decimal(1);
            if (c.words != 3 || length == NONE) {
                return BAD_COMMAND;
            }
            int error = kernel.reach(p, c, 2, one, false);
            if (error == 0) {
                error = send(one, kernel.telling(one.fid, -1, length, c.text, 0, 0));
                kernel.clunk(one);
            }
            return error;
        }

        int chmod(Process p, Command c) {
            int bits = c.octal(1);
            if (c.words != 3 || bits == NONE) {
                return BAD_COMMAND;
            }
            int error = kernel.reach(p, c, 2, one, false);
            if (error != 0) {
                return error;
            }
            error = send(one, kernel.about(M_STAT, one.fid));
            if (error == 0) {
                long mode = kernel.reply.number(TOLD_STAT + STAT_MODE, 4) & ~NINE | bits;
                error = send(one, kernel.telling(one.fid, mode, -1, c.text, 0, 0));
            }
            kernel.clunk(one);
            return error;
        }

        int stat(Process p, Command c) {
            if (c.words != 2) {
                return BAD_COMMAND;
            }
            int error = kernel.reach(p, c, 1, one, true);
            if (error != 0) {
                return error;
            }
            error = send(one, kernel.about(M_STAT, one.fid));
            if (error == 0) {
                tellStat(p.out);
            }
            kernel.clunk(one);
            return error;
        }

        private void tellStat(Bytes target) {
            Bytes reply = kernel.reply;
            int name = TOLD_STAT + STAT_NAME;
            int uid = reply.stringEnd(name);
            int mode = (int) reply.number(TOLD_STAT + STAT_MODE, 4);
            target.addAll(reply, name + 2, uid);
            target.add(' ');
            target.add((mode & DIRECTORY) != 0 ? 'd' : (mode & GROWS) != 0 ? 'a' : '-');
            target.addNumber(mode >> 6 & 7);
            target.addNumber(mode >> 3 & 7);
            target.addNumber(mode & 7);
            target.add(' ');
            target.addNumber(reply.number(TOLD_STAT + STAT_LENGTH, 8));
            target.add(' ');
            target.addAll(reply, uid + 2, reply.stringEnd(uid));
            target.add(' ');
            target.addNumber(reply.number(TOLD_STAT + STAT_VERSION, 4));
            target.add('\n');
        }

        int read(Process p, Command c) {
            int n = c.decimal(2);
            int d = c.digit(1);
            if (c.words != 3 || d == NONE || n < 1 || n > PORTION) {
                return BAD_COMMAND;
            }
            Channel opening = p.openingOf(d);
            if (opening == null) {
                return NO_DESCRIPTOR;
            }
            int error = send(opening, kernel.reading(opening.fid, opening.offset, n));
            if (error == 0) {
                int told = (int) kernel.reply.number(HEAD, 4);
                p.out.addAll(kernel.reply, READ_HEAD, READ_HEAD + told);
                opening.offset += told;
            }
            return error;
        }

        int write(Process p, Command c) {
            int d = c.digit(1);
            if (c.words != 3 || d == NONE) {
                return BAD_COMMAND;
            }
            Channel opening = p.openingOf(d);
            if (opening == null) {
                return NO_DESCRIPTOR;
            }
            int error = send(opening, kernel.writing(opening.fid, opening.offset, c.text,
                c.startOf(2), c.endOf(2)));
            if (error == 0) {
                opening.offset += (int) kernel.reply.number(HEAD, 4);
            }
            return error;
        }

        int seek(Process p, Command c) {
            int d = c.digit(1);
            int offset = c.decimal(2);
            if (c.words != 3 || d == NONE || offset == NONE) {
                return BAD_COMMAND;
            }
            Channel opening = p.openingOf(d);
            if (opening == null) {
                return NO_DESCRIPTOR;
            }
            opening.offset = offset;
            return 0;
        }

        int close(Process p, Command c) {
            int d = c.digit(1);
            if (c.words != 2 || d == NONE) {
                return BAD_COMMAND;
            }
            if (p.openingOf(d) == null) {
                return NO_DESCRIPTOR;
            }
            kernel.close(p, d);
            return 0;
        }

        int bind(Process p, Command c) {
            int flags = c.words == 4 ? c.flags(1) : 0;
            if (c.words < 3 || c.words > 4 || flags == NONE) {
                return BAD_COMMAND;
            }
            int error = kernel.reach(p, c, c.words - 2, one, true);
            error = error == 0 ? reachTwo(p, c) : error;
            return error == 0 ? place(p.group, flags) : error;
        }

        int mount(Process p, Command c) {
            int flags = c.words == 4 ? c.flags(1) : 0;
            int server = c.digit(c.words - 2);
            if (c.words < 3 || c.words > 4 || flags == NONE || server < 0 || server >= SERVERS) {
                return BAD_COMMAND;
            }
            int error = kernel.host(server).serve(KERNEL, kernel.attaching(server, p.user),
                kernel.reply);
            one.become(server, kernel.fresh, 0, true);
            error = error == 0 ? reachTwo(p, c) : error;
            return error == 0 ? place(p.group, flags) : error;
        }

        /** The last word's PATH is walked AT; at an error channel one is clunked. */
        private int reachTwo(Process p, Command c) {
            int error = kernel.readPath(p, c, c.words - 1);
            if (error == 0) {
                error = kernel.walk(p, two, kernel.names, false);
            }
            if (error != 0) {
                kernel.clunk(one);
            }
            return error;
        }

        /** Channel one, or all MEMBERS whose POINT it is, at the POINT where channel two is. */
        private int place(Group g, int flags) {
            Point point = g.pointAt(two.server, two.path);
            Point source = one.point == point ? null : one.point;
            boolean beside = (flags & (Command.BEFORE | Command.BEHIND)) != 0;
            int error = placeRefusal(g, point, source, flags);
            if (error == 0) {
                error = gather(source, (flags & Command.TO_CREATE) != 0);
            }
            if (error != 0) {
                kernel.clunk(two);
                kernel.clunk(one);
                return error;
            }
            if (source != null) {
                kernel.clunk(one);
            }
            boolean stays = point == null && beside;
            if (point == null) {
                point = g.add(two.server, two.path);
            } else if (!beside) {
                kernel.clunkMembers(point);
            }
            if (stays) {
                point.insert(0, two, two.fid, false);
            }
            int first = (flags & Command.BEFORE) != 0 ? 0 : point.count;
            for (int i = 0; i < copied && i < MEMBERS; i++) {
                point.insert(first + i, copies[i], copies[i].fid, copies[i].create);
            }
            if (!stays) {
                kernel.clunk(two);
            }
            return 0;
        }

        private int placeRefusal(Group g, Point point, Point source, int flags) {
            if (one.directory != two.directory || !one.directory && flags != 0) {
                return BAD_MODE;
            }
            boolean beside = (flags & (Command.BEFORE | Command.BEHIND)) != 0;
            int there = !beside ? 0 : point == null ? 1 : point.count;
            int members = there + (source == null ? 1 : source.count);
            return members > MEMBERS || point == null && g.count >= POINTS ? TOO_MANY : 0;
        }

        /** What is to be bound: channel one itself, or each MEMBER of its POINT by a NEW FID. */
        private int gather(Point source, boolean create) {
            copied = 0;
            if (source == null) {
                copies[0].become(one.server, one.fid, one.path, one.directory);
                copies[0].create = create;
                copied = 1;
                return 0;
            }
            int error = 0;
            for (int j = 0; j < source.count && j < MEMBERS && error == 0; j++) {
                Channel m = source.memberOf(j);
                if (m != null) {
                    error = kernel.host(m.server).serve(KERNEL,
                        kernel.walking(m.server, m.fid, NONE), kernel.reply);
                    if (error == 0) {
                        copies[j].become(m.server, kernel.fresh, m.path, m.directory);
                        copies[j].create = create || m.create;
                        copied++;
                    }
                }
            }
            for (int j = copied - 1; j >= 0 && error != 0; j--) {
                kernel.host(copies[j].server).serve(KERNEL,
                    kernel.about(M_CLUNK, copies[j].fid), kernel.reply);
            }
            return error;
        }

        int unmount(Process p, Command c) {
            if (c.words < 2 || c.words > 3) {
                return BAD_COMMAND;
            }
            int error = kernel.reach(p, c, 1, one, false);
            if (c.words == 3) {
                error = error == 0 ? reachTwo(p, c) : error;
                return error == 0 ? unmountOne(p.group) : error;
            }
            if (error != 0) {
                return error;
            }
            kernel.clunk(one);
            Point point = p.group.pointAt(one.server, one.path);
            if (point == null) {
                return NO_FILE;
            }
            kernel.clunkMembers(point);
            p.group.remove(point);
            return 0;
        }

        /** The first MEMBER where channel one is goes from the POINT where channel two is. */
        private int unmountOne(Group g) {
            kernel.clunk(two);
            kernel.clunk(one);
            Point point = g.pointAt(two.server, two.path);
            for (int j = 0; point != null && j < point.count; j++) {
                Channel m = point.memberOf(j);
                if (m != null && m.server == one.server && m.path == one.path) {
                    kernel.clunk(m);
                    point.remove(j);
                    if (point.count == 0) {
                        g.remove(point);
                    }
                    return 0;
                }
            }
            return NO_FILE;
        }

        int fork(Process p, Command c) {
            boolean shares = c.is(1, "s");
            boolean copying = c.is(1, "c");
            if (c.words != 2 || !shares && !copying && !c.is(1, "e")) {
                return BAD_COMMAND;
            }
            Process made = kernel.spareProcess();
            if (made == null) {
                return TOO_MANY;
            }
            Server first = kernel.host(0);
            int error = first.serve(KERNEL, kernel.walking(0, p.root, NONE), kernel.reply);
            if (error != 0) {
                return error;
            }
            int root = kernel.fresh;
            Group group = shares ? p.group : kernel.spareGroup();
            error = copying ? kernel.copyGroup(p.group, group) : 0;
            if (error != 0) {
                first.serve(KERNEL, kernel.about(M_CLUNK, root), kernel.reply);
                return error;
            }
            made.begin(p.user, root, group);
            made.follow(p);
            kernel.host(SHOWING).show(made);
            p.out.addNumber(made.number);
            p.out.add('\n');
            return 0;
        }

        int exit(Process p, Command c) {
            if (c.words != 1) {
                return BAD_COMMAND;
            }
            p.leaving = true;
            return 0;
        }

        int set(Process p, Command c) {
            Bytes value = p.variableOf(c.variableAt(1));
            if (c.words < 2 || c.words > 3 || value == null || c.lengthOf(2) > VARIABLE_BYTES) {
                return BAD_COMMAND;
            }
            value.take(c.text, c.startOf(2), c.endOf(2));
            return 0;
        }

        /** A SCRIPT is read; its lines are the Shell's to do. */
        int run(Process p, Command c) {
            if (c.words < 2 || c.words > 2 + ARGUMENTS) {
                return BAD_COMMAND;
            }
            int error = kernel.reach(p, c, 1, one, true);
            c.script.clear();
            error = error == 0 ? pour(c.script) : error;
            if (error == 0) {
                c.doing = Command.RUN;
                c.next = 0;
            }
            return error;
        }
    }

    /** Commands in one another: which is next, and what those that it stands in answer. */
    private static final class Shell {
        private final Command[] open = new Command[DEPTH];
        private final Bytes waiting = new Bytes(LINE_BYTES);
        private int depth;
        private int begun;
        private int error;
        private boolean waits;
        private boolean expands;

        Shell() {
            for (int i = 0; i < DEPTH; i++) {
                open[i] = new Command();
            }
        }

        /** The line that was entered waits to be the first command. */
        void begin(Bytes line) {
            depth = 0;
            begun = 0;
            error = 0;
            waiting.take(line, 0, line.size());
            waits = true;
            expands = true;
        }

        boolean goesOn() {
            return waits || depth > 0;
        }

        /** What the command that ended last answered. */
        int error() {
            return error;
        }

        /** The command that is to be done now; null if goesOn() is to be asked first. */
        Command next(Process p) {
            if (!waits) {
                resume(p);
                return null;
            }
            waits = false;
            if (depth >= DEPTH || begun >= COMMANDS) {
                error = TOO_MANY;
                return null;
            }
            Command c = open[depth];
            Command script = innermostScript();
            depth++;
            begun++;
            boolean fits = expands ? expand(p, c.text, script)
                : c.text.take(waiting, 0, waiting.size());
            c.split();
            if (!fits) {
                end(BAD_COMMAND);
                return null;
            }
            return c;
        }

        private Command innermostScript() {
            for (int i = depth - 1; i >= 0; i--) {
                if (i < DEPTH && open[i].doing == Command.RUN) {
                    return open[i];
                }
            }
            return null;
        }

        /** Whether all of the line that waits fits, with what its $ stand for. */
        private boolean expand(Process p, Bytes to, Command script) {
            boolean fits = true;
            to.clear();
            for (int i = 0; i < waiting.size() && fits; i++) {
                int b = waiting.at(i);
                int sign = b == '$' ? waiting.at(i + 1) : NONE;
                Bytes value = p.variableOf(sign - 'a');
                if (sign >= '0' && sign <= '9') {
                    int word = sign - '0' + 1;
                    fits = script == null
                        || to.addAll(script.text, script.startOf(word), script.endOf(word));
                    i++;
                } else if (value != null) {
                    fits = to.addAll(value, 0, value.size());
                    i++;
                } else {
                    fits = to.add(b);
                    i += sign == '$' ? 1 : 0;
                }
            }
            return fits;
        }

        /** The command that was done answers; it ends, unless there are others that it does. */
        void end(int answered) {
            error = answered;
            if (depth > 0 && depth <= DEPTH && open[depth - 1].doing == Command.EMPTY) {
                depth--;
            }
        }

        /** The innermost command that does others has its next one wait, or ends. */
        private void resume(Process p) {
            if (depth <= 0 || depth > DEPTH) {
                depth = 0;
                return;
            }
            Command c = open[depth - 1];
            if (c.forgives) {
                c.forgives = false;
                error = 0;
            }
            boolean ends = c.doing == Command.IF || error != 0 || p.leaving;
            if (!ends && c.doing == Command.FOR) {
                ends = !nextWord(p, c);
            } else if (!ends) {
                ends = !nextLine(c);
            }
            if (ends) {
                depth--;
            }
        }

        /** Whether the next word of a FOR has its command wait (or the error that it is). */
        private boolean nextWord(Process p, Command c) {
            if (c.next >= c.body - 1) {
                return false;
            }
            Bytes value = p.variableOf(c.variableAt(1));
            if (value == null || c.lengthOf(c.next) > VARIABLE_BYTES) {
                error = BAD_COMMAND;
                return false;
            }
            value.take(c.text, c.startOf(c.next), c.endOf(c.next));
            c.next++;
            waiting.clear();
            c.join(waiting, c.body, c.words);
            waits = true;
            expands = true;
            return true;
        }

        /** Whether the next line of a SCRIPT waits, or is an error that is to be looked at. */
        private boolean nextLine(Command c) {
            int start = c.next;
            int end = start;
            while (end < c.script.size() && c.script.at(end) != '\n') {
                end++;
            }
            if (start >= c.script.size()) {
                return false;
            }
            c.next = end + 1;
            c.forgives = c.script.at(start) == '-';
            if (end - start > LINE_BYTES) {
                error = BAD_COMMAND;
                return true;
            }
            waiting.take(c.script, c.forgives ? start + 1 : start, end);
            waits = true;
            expands = true;
            return true;
        }

        /** if: its command waits, should the words be alike or not as they are to be. */
        int choose(Command c) {
            boolean alike = c.is(2, "=");
            if (c.words < 5 || !alike && !c.is(2, "!=")) {
                return BAD_COMMAND;
            }
            if (c.areAlike(1, 3) == alike) {
                c.doing = Command.IF;
                waiting.clear();
                c.join(waiting, 4, c.words);
                waits = true;
                expands = false;
            }
            return 0;
        }

        int repeat(Command c) {
            int end = 3;
            while (end < c.words && !c.is(end, "do")) {
                end++;
            }
            if (c.variableAt(1) == NONE || !c.is(2, "in") || end + 1 >= c.words) {
                return BAD_COMMAND;
            }
            c.doing = Command.FOR;
            c.next = 3;
            c.body = end + 1;
            return 0;
        }
    }
}
