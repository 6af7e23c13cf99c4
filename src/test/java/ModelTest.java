import java.util.ArrayList;
import java.util.List;
import java.util.Random;

/**
 * Random runs of the class and of the Model, call by call; the same ones each time. With two
 * numbers as arguments: other runs, from the first number on, so many.
 */
public final class ModelTest {
    private static final String[] NAMES = {"a", "b", "c", "d", "f", "g", "s", "x", "0", "1", "cons",
        "status", "ctl", "..", ".", "abcdefghijkl"};
    private final Random random;
    private final SpaceHouse house = new SpaceHouse();
    private final Model model = new Model();
    private final List<String> calls = new ArrayList<>();
    private final int style;
    private boolean differs = false;

    private ModelTest(long seed) {
        random = new Random(seed);
        style = random.nextInt(6);
    }

    public static void main(String[] args) {
        long first = args.length > 1 ? Long.parseLong(args[0]) : 1;
        int runs = args.length > 1 ? Integer.parseInt(args[1]) : 400;
        int wrong = 0;
        for (long seed = first; seed < first + runs && wrong < 3; seed++) {
            wrong += new ModelTest(seed).run(seed) ? 0 : 1;
        }
        System.out.println("ModelTest: " + runs + " runs, " + wrong + " differ");
        if (wrong != 0) {
            System.exit(1);
        }
    }

    private boolean run(long seed) {
        try {
            int users = 1 + random.nextInt(3);
            for (int i = 0; i < users; i++) {
                call("login", pick(4), 0, 0, 0, 0);
            }
            if (style > 1) {
                prepare();
            }
            if (style > 3) {
                starve();
            }
            for (int i = 0; i < 110 && !differs; i++) {
                int what = random.nextInt(20);
                if (what < 13) {
                    enter(someone(), line());
                } else if (what < 16 && style > 0) {
                    ask(random.nextInt(3), request());
                } else if (what == 16) {
                    call("login", pick(5) - 1, 0, 0, 0, 0);
                } else if (what == 17) {
                    call("input", pick(3) == 0 ? 10 : 97 + pick(5), 0, 0, 0, 0);
                } else if (what == 18) {
                    call("wipe", someone(), 0, 0, 0, 0);
                } else {
                    script();
                }
                look();
            }
        } catch (RuntimeException e) {
            differs = true;
            e.printStackTrace(System.out);
        }
        if (differs) {
            System.out.println("run " + seed + " differs:");
            for (String c : calls.subList(Math.max(0, calls.size() - 60), calls.size())) {
                System.out.println("  " + c);
            }
        }
        return !differs;
    }

    /** Directories and files that the names of the lines are often those of. */
    private void prepare() {
        String[] lines = {"mkdir a", "mkdir b", "mkdir c", "mkdir a/d", "mkdir #1/a", "mkdir #1/d",
            "echo one > f", "echo two > a/g", "echo three > b/f", "echo four > #1/x", "echo > d"};
        for (String text : lines) {
            enter(0, text);
        }
    }

    /** So many fids of server 0 are used that a NEW FID lacks now and then. */
    private void starve() {
        for (int i = 0; i < 5; i++) {
            call("login", 1, 0, 0, 0, 0);
        }
        int most = 40 + pick(8);
        for (int p = 7; p > 1; p--) {
            for (int d = 0; d < 8 && house.server(0, 2) < most; d++) {
                enter(p, "open #0 0");
            }
        }
    }

    /** Mostly a process that there is. */
    private int someone() {
        int p = pick(style > 3 ? 8 : 4);
        for (int i = 0; i < 6 && house.process(p, 0) < 0; i++) {
            p = pick(8);
        }
        return p;
    }

    private int pick(int n) {
        return random.nextInt(n);
    }

    private void due(String call, long got, long want) {
        calls.add(call + " -> " + got);
        if (got != want && !differs) {
            differs = true;
            calls.add(call + " answered " + got + ", the Model " + want);
        }
    }

    private void call(String name, int a, int b, int c, int d, long w) {
        if (differs) {
            return;
        }
        switch (name) {
            case "login": due("login " + a, house.login(a), model.login(a)); break;
            case "input": due("input " + a, house.input(a), model.input(a)); break;
            case "wipe": due("wipe " + a, house.wipe(a), model.wipe(a)); break;
            default: throw new IllegalArgumentException(name);
        }
    }

    private void enter(int process, String text) {
        for (int i = 0; i < text.length() && !differs; i++) {
            long got = house.type(text.charAt(i), 1);
            if (got != model.type(text.charAt(i), 1)) {
                due("type", got, -1);
            }
        }
        if (!differs) {
            due("enter " + process + " " + text.replace("\n", "\\n"), house.enter(process),
                model.enter(process));
        }
    }

    private void ask(int server, byte[] bytes) {
        StringBuilder hex = new StringBuilder();
        for (byte b : bytes) {
            hex.append(String.format("%02x", b));
            if (house.feed(b & 255) != model.feed(b & 255)) {
                due("feed", 0, 1);
            }
        }
        due("ask " + server + " " + hex, house.ask(server), model.ask(server));
        for (int i = 0; i < 301; i++) {
            if (house.answer(i) != model.answer(i)) {
                due("answer " + i, house.answer(i), model.answer(i));
            }
        }
    }

    /** All that can be seen is compared; what is long only by a part of it. */
    private void look() {
        same("sum", house.sum(), model.sum());
        same("messages", house.messages(), model.messages());
        int k = house.messages() - 1 - pick(45);
        for (int i = 0; i < 260; i += 1 + pick(7)) {
            same("message " + k + " " + i, house.message(k, i), model.message(k, i));
        }
        for (int p = 0; p < 8; p++) {
            for (int what = 0; what <= 32; what++) {
                same("process " + p + " " + what, house.process(p, what), model.process(p, what));
            }
            for (int i = 0; i < 1001; i += 1 + pick(40)) {
                same("out " + p + " " + i, house.out(p, i), model.out(p, i));
            }
            for (int i = 0; i < 60; i++) {
                same("dot " + p + " " + i, house.dot(p, i), model.dot(p, i));
                same("variable " + p + " " + i, house.variable(p, i % 27, i / 27),
                    model.variable(p, i % 27, i / 27));
            }
            lookAtSpace(p);
        }
        for (int s = 0; s < 3; s++) {
            for (int what = 0; what < 6; what++) {
                same("server " + s + " " + what, house.server(s, what), model.server(s, what));
            }
            for (int f = 0; f < 48; f++) {
                for (int what = 0; what < 3; what++) {
                    same("fid " + s + " " + f + " " + what, house.fid(s, f, what),
                        model.fid(s, f, what));
                }
            }
        }
        for (int i = 0; i < 1001; i += 1 + pick(100)) {
            same("console " + i, house.console(i), model.console(i));
        }
    }

    private void lookAtSpace(int p) {
        for (int k = 0; k < 9; k++) {
            for (int what = 0; what < 3; what++) {
                same("point " + p + " " + k + " " + what, house.point(p, k, what),
                    model.point(p, k, what));
            }
            for (int j = 0; j < 7; j++) {
                for (int what = 0; what < 4; what++) {
                    same("member " + p + " " + k + " " + j + " " + what,
                        house.member(p, k, j, what), model.member(p, k, j, what));
                }
            }
        }
        for (int d = 0; d < 8; d++) {
            for (int what = 0; what < 4; what++) {
                same("descriptor " + p + " " + d + " " + what, house.descriptor(p, d, what),
                    model.descriptor(p, d, what));
            }
        }
    }

    private void same(String call, long got, long want) {
        if (got != want) {
            due(call, got, want);
        }
    }

    // ------------------------------------------------------------ lines

    private String name() {
        return NAMES[pick(pick(3) == 0 ? NAMES.length : 8)];
    }

    private String path() {
        switch (pick(14)) {
            case 0: return "/";
            case 1: return "#" + pick(3);
            case 2: return "#2/" + pick(4) + (pick(2) == 0 ? "/status" : "/ctl");
            case 3: return "#2/cons";
            case 4: return "#" + pick(4) + "/" + name();
            case 5: return "/" + name() + "/" + name();
            case 6: return name() + "/" + name() + "/" + name();
            case 7: return pick(9) == 0 ? "#" : "../" + name();
            case 8: return name() + "//" + name() + "/";
            default: return name();
        }
    }

    private String line() {
        int what = pick(style == 3 || style == 5 ? 48 : 37);
        switch (what) {
            case 0: return "cd " + path();
            case 1: return "cat " + path();
            case 2: case 3: return "ls " + path();
            case 4: case 5: return "echo " + words() + " > " + path();
            case 6: return "echo " + words() + " >> " + path();
            case 7: case 8: case 9: return "mkdir " + path();
            case 10: return "create " + octal() + " " + path() + " " + pick(4);
            case 11: return "rm " + path();
            case 12: return "mv " + path() + " " + name();
            case 13: return "size " + pick(pick(2) == 0 ? 10 : 650) + " " + path();
            case 14: return "chmod " + octal() + " " + path();
            case 15: case 16: return "stat " + path();
            case 17: case 18: return "open " + path() + " " + pick(pick(9) == 0 ? 9 : 3);
            case 19: case 20: return "read " + descriptor() + " " + pick(pick(9) == 0 ? 150 : 101);
            case 21: case 22: return "write " + descriptor() + " " + (pick(9) == 0 ? "kill" : "text");
            case 23: return "seek " + descriptor() + " " + pick(pick(3) == 0 ? 10000 : 20);
            case 24: return "close " + descriptor();
            case 25: case 26: case 27: return "bind " + flags() + path() + " " + path();
            case 28: return "mount " + flags() + pick(3) + " " + path();
            case 29: return "unmount " + path();
            case 30: return "unmount " + path() + " " + path();
            case 31: return "fork " + "scex".charAt(pick(pick(5) == 0 ? 4 : 3));
            case 32: return pick(3) == 0 ? "exit" : "set " + letter() + " " + words();
            case 33: return "if " + name() + (pick(2) == 0 ? " = " : " != ") + name() + " " + inner();
            case 34: return "for " + letter() + " in " + words() + " do " + inner();
            case 35: return "run " + path() + " " + words();
            case 36: return odd();
            case 37: return "run s " + words();
            case 38: case 39: return "bind " + flags() + name() + " " + name();
            case 40: return "for x in a b c d f g do " + inner();
            case 41: return "fork c";
            case 43: return "cat " + (pick(2) == 0 ? "a/g" : "b/f");
            case 44: return "echo " + words() + " > " + name() + "/" + name();
            case 45: return "ls a";
            case 46: return "bind -a " + name() + " a";
            case 42: return "unmount " + name();
            default: return "ls " + name();
        }
    }

    private int descriptor() {
        return pick(3) == 0 ? pick(9) : pick(2);
    }

    private String inner() {
        String text = line().replace(name(), "$$x");
        return pick(3) == 0 ? text.replace("$$x", "$x") : text;
    }

    private String octal() {
        return pick(3) == 0 ? Integer.toOctalString(pick(512)) : pick(2) == 0 ? "777" : "666";
    }

    private char letter() {
        return pick(15) == 0 ? 'X' : (char) ('w' + pick(4));
    }

    private String flags() {
        String[] all = {"", "", "-a ", "-b ", "-ac ", "-bc ", "-c ", "-ab ", "-d ", "- "};
        return all[pick(pick(5) == 0 ? all.length : 7)];
    }

    private String words() {
        StringBuilder text = new StringBuilder();
        int n = pick(4);
        for (int i = 0; i < n; i++) {
            text.append(i == 0 ? "" : " ");
            switch (pick(8)) {
                case 0: text.append('$').append(letter()); break;
                case 1: text.append('$').append(pick(10)); break;
                case 2: text.append("$$"); break;
                case 3: text.append("123456789012345678901".substring(pick(10))); break;
                case 4: text.append("kill"); break;
                default: text.append(name()); break;
            }
        }
        return text.toString();
    }

    private String odd() {
        String[] all = {"", "  ", "nothing", "cat", "if a = a", "for x in a do", "echo $",
            "cat /a/b/c/d/f/g/s/x/0/1/a", "mkdir " + "abcdefghijkl/abcdefghijkl/abcdefghijkl/abcdefghijkl/abcdefghij",
            "echo kill > #2/" + pick(4) + "/ctl", "run #2/cons a b", "set x " + words(),
            "echo $x$x$x$x$x$x", "for x in " + words() + " do for y in a b do " + inner()};
        return all[pick(all.length)];
    }

    /** A SCRIPT is written to the file s of server 0, from outside. */
    private void script() {
        StringBuilder text = new StringBuilder();
        int n = pick(8);
        for (int i = 0; i < n; i++) {
            String one = line();
            text.append(pick(3) == 0 ? "-" : "").append(one).append('\n');
        }
        if (pick(20) == 0) {
            text.append("-run s\n-run s\n");
        }
        if (pick(20) == 0) {
            text.append("-echo ").append("1234567890".repeat(10)).append("\nls /");
        }
        String all = text.substring(0, Math.min(600, text.length()));
        ask(0, Wire.whole(100, Wire.parts().put(300, 4).text("9P2000")));
        ask(0, Wire.whole(104, Wire.parts().put(1, 4).put(-1, 4).text("ann").text("")));
        ask(0, Wire.whole(110, Wire.parts().put(1, 4).put(2, 4).put(1, 2).text("s")));
        ask(0, Wire.whole(122, Wire.parts().put(2, 4)));
        ask(0, Wire.whole(114, Wire.parts().put(1, 4).text("s").put(0777, 4).put(1, 1)));
        for (int i = 0; i < all.length(); i += 200) {
            String part = all.substring(i, Math.min(i + 200, all.length()));
            ask(0, Wire.whole(118,
                Wire.parts().put(1, 4).put(i, 8).put(part.length(), 4).raw(part)));
        }
        ask(0, Wire.whole(120, Wire.parts().put(1, 4)));
        enter(someone(), "run s " + words());
    }

    // ------------------------------------------------------------ messages from outside

    private long some() {
        return pick(20) == 0 ? 0xFFFFFFFFL : pick(6);
    }

    private byte[] request() {
        byte[] bytes = Wire.whole(type(), Wire.parts());
        int type = bytes[4];
        Wire.Parts parts = Wire.parts();
        switch (type) {
            case 100:
                parts.put(pick(3) == 0 ? pick(320) : 300, 4).text(pick(2) == 0 ? "9P2000" : "9P");
                break;
            case 104:
                parts.put(some(), 4).put(pick(9) == 0 ? 0 : -1, 4)
                    .text(Model.USERS[pick(4)]).text(pick(9) == 0 ? "a" : "");
                break;
            case 108:
                parts.put(some(), 2);
                break;
            case 110: {
                int n = pick(9) == 0 ? pick(11) : pick(3);
                parts.put(some(), 4).put(some(), 4).put(n, 2);
                for (int i = 0; i < n; i++) {
                    parts.text(name());
                }
                break;
            }
            case 112:
                parts.put(some(), 4).put(mode(), 1);
                break;
            case 114:
                parts.put(some(), 4).text(name()).put(perm(), 4).put(mode(), 1);
                break;
            case 116:
                parts.put(some(), 4).put(offset(), 8).put(pick(4) == 0 ? pick(310) : pick(130), 4);
                break;
            case 118: {
                String text = pick(5) == 0 ? "kill" : "1234567890".repeat(pick(15));
                parts.put(some(), 4).put(offset(), 8).put(text.length(), 4).raw(text);
                break;
            }
            case 126: {
                byte[] stat = Wire.stat(rare(), rare(), rare(), pick(2) == 0 ? perm() : -1, rare(),
                    pick(3) == 0 ? pick(700) : -1, pick(3) == 0 ? name() : "",
                    pick(15) == 0 ? "ann" : "", "", "");
                parts.put(some(), 4).put(stat.length, 2).raw(stat);
                break;
            }
            default:
                parts.put(some(), 4);
                break;
        }
        bytes = Wire.whole(type, parts);
        if (pick(15) == 0) {
            bytes[pick(bytes.length)] += pick(3) - 1;
        }
        if (pick(40) == 0) {
            bytes = java.util.Arrays.copyOf(bytes, pick(bytes.length + 4));
        }
        return bytes;
    }

    private int type() {
        int[] all = {100, 104, 104, 104, 108, 110, 110, 110, 110, 112, 112, 112, 114, 114, 114,
            116, 116, 116, 118, 118, 118, 120, 120, 122, 124, 126, 126, 126};
        int type = all[pick(all.length)];
        return type == 100 && pick(4) != 0 ? 110 : type;
    }

    private int mode() {
        return pick(9) == 0 ? pick(256) : pick(4) + (pick(4) == 0 ? 16 : 0) + (pick(4) == 0 ? 64 : 0);
    }

    private long perm() {
        long bits = pick(2) == 0 ? 0777 : pick(512);
        return bits + (pick(4) == 0 ? 1L << 31 : 0) + (pick(6) == 0 ? 1L << 30 : 0)
            + (pick(15) == 0 ? 512 : 0);
    }

    private long offset() {
        return pick(3) == 0 ? 0 : pick(9) == 0 ? random.nextLong() : pick(200);
    }

    private long rare() {
        return pick(20) == 0 ? 0 : -1;
    }
}
