import java.io.ByteArrayOutputStream;

/** Messages from outside, made part by part, and what a server answers to them. */
final class Wire {
    static final long NOFID = 0xFFFFFFFFL;
    private final SpaceHouse house;
    private final int server;
    private byte[] reply = new byte[0];

    Wire(SpaceHouse x, int s) {
        house = x;
        server = s;
    }

    static final class Parts {
        private final ByteArrayOutputStream bytes = new ByteArrayOutputStream();

        Parts put(long number, int n) {
            for (int i = 0; i < n; i++) {
                bytes.write((int) (number >> 8 * i));
            }
            return this;
        }

        Parts text(String text) {
            put(text.length(), 2);
            return raw(text);
        }

        Parts raw(String text) {
            for (int i = 0; i < text.length(); i++) {
                bytes.write(text.charAt(i));
            }
            return this;
        }

        Parts raw(byte[] more) {
            bytes.write(more, 0, more.length);
            return this;
        }

        byte[] bytes() {
            return bytes.toByteArray();
        }
    }

    static Parts parts() {
        return new Parts();
    }

    /** A whole message: SIZE, type and TAG 7 before its parts. */
    static byte[] whole(int type, Parts parts) {
        byte[] body = parts.bytes();
        return parts().put(body.length + 7, 4).put(type, 1).put(7, 2).raw(body).bytes();
    }

    /** Hands bytes to the server; what ask() says. */
    int hand(byte[] bytes) {
        for (byte b : bytes) {
            house.feed(b & 255);
        }
        int n = house.ask(server);
        reply = new byte[Math.max(n, 0)];
        for (int i = 0; i < n; i++) {
            reply[i] = (byte) house.answer(i);
        }
        return n;
    }

    /** Asks; 0, or the number of the error that is the answer, or -1 if it has no right form. */
    int ask(int type, Parts parts) {
        int n = hand(whole(type, parts));
        if (n < 7 || number(0, 4) != n || number(5, 2) != 7) {
            return -1;
        }
        if (number(4, 1) == type + 1 && type != 106) {
            return 0;
        }
        if (number(4, 1) != 107 || number(7, 2) != n - 9) {
            return -1;
        }
        return error(text(7));
    }

    private static final String[] ERRORS = {"no such file", "not a directory", "permission denied",
        "file exists", "bad name", "unknown fid", "fid in use", "fid is open", "fid is not open",
        "is a directory", "not empty", "no room", "bad offset", "bad message", "unknown user",
        "bad mode"};

    private static int error(String text) {
        for (int i = 0; i < ERRORS.length; i++) {
            if (ERRORS[i].equals(text)) {
                return i + 1;
            }
        }
        return -1;
    }

    long number(int at, int n) {
        long number = 0;
        for (int i = n - 1; i >= 0; i--) {
            number = number << 8 | (at + i < reply.length ? reply[at + i] & 255 : 0);
        }
        return number;
    }

    String text(int at) {
        StringBuilder text = new StringBuilder();
        for (int i = 0; i < number(at, 2); i++) {
            text.append((char) number(at + 2 + i, 1));
        }
        return text.toString();
    }

    /** The bytes that a read told. */
    String told() {
        StringBuilder text = new StringBuilder();
        for (int i = 11; i < reply.length; i++) {
            text.append((char) (reply[i] & 255));
        }
        return text.toString();
    }

    String hex() {
        StringBuilder text = new StringBuilder();
        for (byte b : reply) {
            text.append(String.format("%02x", b));
        }
        return text.toString();
    }

    int version(long size, String version) {
        return ask(100, parts().put(size, 4).text(version));
    }

    int attach(long fid, String user) {
        return ask(104, parts().put(fid, 4).put(NOFID, 4).text(user).text(""));
    }

    int walk(long fid, long newfid, String... names) {
        Parts parts = parts().put(fid, 4).put(newfid, 4).put(names.length, 2);
        for (String name : names) {
            parts.text(name);
        }
        return ask(110, parts);
    }

    int open(long fid, int mode) {
        return ask(112, parts().put(fid, 4).put(mode, 1));
    }

    int create(long fid, String name, long perm, int mode) {
        return ask(114, parts().put(fid, 4).text(name).put(perm, 4).put(mode, 1));
    }

    int read(long fid, long offset, long count) {
        return ask(116, parts().put(fid, 4).put(offset, 8).put(count, 4));
    }

    int write(long fid, long offset, String text) {
        return ask(118, parts().put(fid, 4).put(offset, 8).put(text.length(), 4).raw(text));
    }

    int clunk(long fid) {
        return ask(120, parts().put(fid, 4));
    }

    int remove(long fid) {
        return ask(122, parts().put(fid, 4));
    }

    int stat(long fid) {
        return ask(124, parts().put(fid, 4));
    }

    /** A wstat; -1 (all bits 1) and "" tell nothing. */
    int wstat(long fid, long mode, long length, String name) {
        return wstat(fid, stat(-1, -1, -1, mode, -1, length, name, "", "", ""));
    }

    int wstat(long fid, byte[] stat) {
        return ask(126, parts().put(fid, 4).put(stat.length, 2).raw(stat));
    }

    static byte[] stat(long type, long dev, long qid, long mode, long time, long length,
            String name, String uid, String gid, String muid) {
        byte[] behind = parts().put(type, 2).put(dev, 4).put(qid, 8).put(qid, 5).put(mode, 4)
            .put(time, 4).put(time, 4).put(length, 8)
            .text(name).text(uid).text(gid).text(muid).bytes();
        return parts().put(behind.length, 2).raw(behind).bytes();
    }
}
