/** set, if, for, run, EXPANDED and the limits of commands in one another (promise 3), VARIABLES (16). */
public final class ScriptTest {
    private ScriptTest() {
    }

    public static void main(String[] args) {
        variables();
        expanding();
        choosing();
        repeating();
        running();
        lines();
        limits();
        leaving();
        Check.end("ScriptTest");
    }

    /** A file of a user on server 0 with any bytes, written from outside. */
    private static void file(SpaceHouse x, String name, String text) {
        Wire w = new Wire(x, 0);
        w.attach(1, "ann");
        if (w.walk(1, 2, name) == 0) {
            w.remove(2);
        }
        Check.due("create " + name, w.create(1, name, 0777, 1), 0);
        for (int i = 0; i < text.length(); i += 200) {
            String part = text.substring(i, Math.min(i + 200, text.length()));
            Check.due("write " + name, w.write(1, i, part), 0);
        }
        w.clunk(1);
    }

    private static String variable(SpaceHouse x, int p, char letter) {
        StringBuilder text = new StringBuilder();
        for (int i = 0; x.variable(p, letter - 'a', i) >= 0; i++) {
            text.append((char) x.variable(p, letter - 'a', i));
        }
        Check.due("bytes of " + letter, x.process(p, 7 + letter - 'a'), text.length());
        return text.toString();
    }

    private static void variables() {
        SpaceHouse x = Check.house(1);
        Check.due("empty", variable(x, 0, 'a'), "");
        Check.line(x, 0, "set a one", 0);
        Check.line(x, 0, "set z 12345678901234567890", 0);
        Check.due("a", variable(x, 0, 'a'), "one");
        Check.due("z", variable(x, 0, 'z'), "12345678901234567890");
        Check.line(x, 0, "set a 123456789012345678901", -18);
        Check.due("a stays", variable(x, 0, 'a'), "one");
        Check.line(x, 0, "set a", 0);
        Check.due("a is empty", variable(x, 0, 'a'), "");
        Check.due("no VARIABLE", x.variable(0, 26, 0), -1);
        Check.due("no VARIABLE", x.variable(0, -1, 0), -1);
        Check.due("no process", x.variable(1, 25, 0), -1);
        Check.due("no byte", x.variable(0, 25, 20), -1);
        Check.due("no byte", x.variable(0, 25, -1), -1);
        Check.due("what 33", x.process(0, 33), -100);
        Check.due("what 32", x.process(0, 32), 20);
        Check.line(x, 0, "fork e", 0);
        Check.due("fork copies them", variable(x, 1, 'z'), "12345678901234567890");
        Check.line(x, 1, "set z b", 0);
        Check.due("they are its own", variable(x, 0, 'z'), "12345678901234567890");
        Check.line(x, 1, "exit", 0);
        x.login(1);
        Check.due("empty at first", variable(x, 1, 'z'), "");
    }

    private static void expanding() {
        SpaceHouse x = Check.house(1);
        Check.line(x, 0, "set a one", 0);
        Check.line(x, 0, "set b $a$a", 0);
        Check.shows(x, 0, "echo $a $b-$c.", "one oneone-.\n");
        Check.shows(x, 0, "echo $$a $$$a $$", "$a $one $\n");
        Check.shows(x, 0, "echo $A $ $- $1x $0", "$A $ $- x\n");
        Check.shows(x, 0, "echo $", "$\n");
        Check.line(x, 0, "set c echo", 0);
        Check.shows(x, 0, "$c $a", "one\n");
        Check.line(x, 0, "set d $$a", 0);
        Check.shows(x, 0, "echo $d", "$a\n");
        Check.line(x, 0, "set l 12345678901234567890", 0);
        Check.shows(x, 0, "echo $l$l$l$l 12345678901234", "12345678901234567890123456789012345678901234567890123456789012345678901234567890 12345678901234\n");
        Check.line(x, 0, "echo $l$l$l$l 123456789012345", -18);
        Check.line(x, 0, "$c $l$l$l$l$l", -18);
        Check.line(x, 0, "if $c = echo", -18);
        Check.line(x, 0, "if $z = a echo a", -18);
    }

    private static void choosing() {
        SpaceHouse x = Check.house(1);
        Check.shows(x, 0, "if a = a echo yes  it is", "yes it is\n");
        Check.shows(x, 0, "if a = b echo yes", "");
        Check.shows(x, 0, "if a = ab echo yes", "");
        Check.shows(x, 0, "if abc = abc echo yes", "yes\n");
        Check.shows(x, 0, "if abc = abd echo yes", "");
        Check.shows(x, 0, "if xbc != abc echo no", "no\n");
        Check.shows(x, 0, "if abc != abc echo no", "");
        Check.shows(x, 0, "if a != b echo no", "no\n");
        Check.shows(x, 0, "if a != a echo no", "");
        Check.line(x, 0, "if a = a cd x", -1);
        Check.line(x, 0, "if a = b cd x", 0);
        Check.line(x, 0, "if a = b nonsense", 0);
        Check.shows(x, 0, "if a = a if b != c if d = d echo deep", "deep\n");
        Check.shows(x, 0, "if a = a echo $$$$", "$$\n");
        Check.line(x, 0, "set a $$$$", 0);
        Check.shows(x, 0, "if a = a echo $a", "$$\n");
        Check.line(x, 0, "if a = a set b", 0);
        Check.shows(x, 0, "if a = a echo a > f", "");
        Check.shows(x, 0, "cat f", "a\n");
    }

    private static void repeating() {
        SpaceHouse x = Check.house(1);
        Check.shows(x, 0, "for x in a b c do echo -$$x-", "-a-\n-b-\n-c-\n");
        Check.due("the last one", variable(x, 0, 'x'), "c");
        Check.shows(x, 0, "for x in a b do echo $x", "c\nc\n");
        Check.shows(x, 0, "for x in do echo a", "");
        Check.shows(x, 0, "for x in a do do echo a", -18, "");
        Check.shows(x, 0, "for x in a  b   do  echo  $$x   do", "a do\nb do\n");
        Check.shows(x, 0, "for x in a b do for y in 1 2 do echo $$x$$$$y", "a1\na2\nb1\nb2\n");
        Check.shows(x, 0, "for x in a b c do if $$x != b echo $$x", "a\nc\n");
        Check.shows(x, 0, "for x in 1 2 cd 3 do $$x /", -18, "");
        Check.due("it ends at the first error", variable(x, 0, 'x'), "1");
        Check.shows(x, 0, "for x in echo cd ls x cd do $$x /", -18, "/\n");
        Check.shows(x, 0, "for x in in do echo $$x", "in\n");
        Check.shows(x, 0, "for x in 12345678901234567890 123456789012345678901 b do echo $$x", -18,
            "12345678901234567890\n");
        Check.due("it is not set", variable(x, 0, 'x'), "12345678901234567890");
        // expanded again, the line may have more than 100 bytes
        Check.line(x, 0, "for x in 12345678901234567890 do echo $$x$$x$$x$$x$$x", -18);
        Check.shows(x, 0, "for x in a b do mkdir $$x", "");
        Check.shows(x, 0, "ls /", "a/\nb/\n");
        Check.line(x, 0, "for x in c a d do mkdir $$x", -4);
        Check.shows(x, 0, "ls /", "a/\nb/\nc/\n");
    }

    private static void running() {
        SpaceHouse x = Check.house(1);
        file(x, "s", "echo one $0 $1 $2-\n\n  \necho $9 $$ $x\nset x $1");
        int before = x.messages();
        Check.shows(x, 0, "run s A B", "one s A B-\n$\n");
        Check.due("as cat", Check.kinds(x, before),
            "110 111 110 111 120 121 112 113 116 117 116 117 120 121");
        Check.due("x", variable(x, 0, 'x'), "A");
        Check.shows(x, 0, "run ./s", "one ./s -\n$ A\n");
        Check.due("x", variable(x, 0, 'x'), "");
        file(x, "t", "echo $1$2$3$4$5$6$7$8$9");
        Check.shows(x, 0, "run t 1 2 3 4 5 6 7 8 9", "123456789\n");
        Check.line(x, 0, "run x", -1);
        Check.line(x, 0, "run /", -10);
        Check.line(x, 0, "run s/t", -2);
        // ARGUMENTS of the innermost SCRIPT, and then of the one before again
        file(x, "u", "echo u $1\nrun t $1 x\necho u $1 $2\nfor y in a b do run t $1 $$y");
        Check.shows(x, 0, "run u 5 6", "u 5\n5x\nu 5 6\n5a\n5b\n");
        Check.shows(x, 0, "for x in p q do if a = a run t $$x", "p\nq\n");
        file(x, "v", "echo a\nnonsense\necho b\n");
        Check.shows(x, 0, "run v", -18, "a\n");
        file(x, "w", "echo a\n-nonsense\n-run v\n- echo c\n-\n--echo d\necho b\n");
        Check.shows(x, 0, "run w", "a\na\nc\nb\n");
        file(x, "e", "");
        Check.shows(x, 0, "run e", "");
        Check.input(x, "echo from the console\necho and more");
        Check.shows(x, 0, "run #2/cons", "from the console\nand more\n");
        Check.line(x, 0, "chmod 333 s", 0);
        Check.line(x, 0, "run s", -3);
        Check.due("fids", x.server(0, 2), 1);
        // its bytes are read whole before a line is done
        file(x, "r", "rm r\necho still here");
        Check.shows(x, 0, "run r", "still here\n");
    }

    private static void lines() {
        SpaceHouse x = Check.house(1);
        String ninety = "123456789012345678901234567890123456789012345678901234567890123456789012345678901234567890";
        file(x, "s", "echo " + ninety + "12345\necho b");
        Check.shows(x, 0, "run s", ninety + "12345\nb\n");
        file(x, "s", "echo a\necho " + ninety + "123456\necho b");
        Check.shows(x, 0, "run s", -18, "a\n");
        file(x, "s", "-echo " + ninety + "1234\necho b");
        Check.shows(x, 0, "run s", ninety + "1234\nb\n");
        file(x, "s", "-echo " + ninety + "12345\necho b");
        Check.shows(x, 0, "run s", "b\n");
        file(x, "s", "echo $1$1$1$1$1\necho b");
        Check.shows(x, 0, "run s 1234567890123456789", ninety.substring(0, 19) + ninety.substring(0, 19)
            + ninety.substring(0, 19) + ninety.substring(0, 19) + ninety.substring(0, 19) + "\nb\n");
        Check.shows(x, 0, "run s 12345678901234567890", -18, "");
        file(x, "s", "-echo $1$1$1$1$1\necho b");
        Check.shows(x, 0, "run s 12345678901234567890", "b\n");
        StringBuilder all = new StringBuilder();
        while (all.length() < 594) {
            all.append("set a\n");
        }
        file(x, "s", all + "echo a");
        Check.due("bytes", x.server(0, 1), 600);
        Check.shows(x, 0, "run s", "a\n");
    }

    private static void limits() {
        SpaceHouse x = Check.house(1);
        // 12 in one another: 9 ifs, the run, an if in the SCRIPT and the last one
        file(x, "s", "if a = a echo 12\n");
        Check.shows(x, 0, ifs(9) + "run s", 0, "12\n");
        Check.shows(x, 0, ifs(10) + "run s", -20, "");
        file(x, "s", "if a = a if a = a echo 13\n");
        Check.shows(x, 0, ifs(9) + "run s", -20, "");
        file(x, "s", "for x in a do if a = a echo 13\n");
        Check.shows(x, 0, ifs(9) + "run s", -20, "");
        // a SCRIPT that runs itself: 12 of it
        file(x, "s", "echo a\nrun s");
        Check.shows(x, 0, "run s", -20, "a\na\na\na\na\na\na\na\na\na\na\n");
        file(x, "s", "-run s\necho a");
        Check.shows(x, 0, "run s", 0, "a\na\na\na\na\na\na\na\na\na\na\n");
        file(x, "s", "-run s\n-run s\n");
        Check.shows(x, 0, "run s", 0, "");
        // 200 in all: the one entered and 199 lines, empty ones and those that are 18 among them
        file(x, "s", lines("\n", 198) + "echo 200\n");
        Check.shows(x, 0, "run s", "200\n");
        file(x, "s", lines("\n", 199) + "echo 201\n");
        Check.shows(x, 0, "run s", -20, "");
        file(x, "s", lines("-x\n", 198) + "echo a");
        Check.shows(x, 0, "run s", 0, "a\n");
        file(x, "s", lines("-x\n", 199) + "x");
        Check.shows(x, 0, "run s", -20, "");
        file(x, "s", lines("-x\n", 198) + "-\n");
        Check.line(x, 0, "run s", 0);
        file(x, "s", lines("\n", 199) + "-echo");
        Check.shows(x, 0, "run s", 0, "");
        // those that are 18 when EXPANDED count, a line of more than 100 bytes does not
        String hundred = "-" + lines("1234567890", 10);
        file(x, "s", hundred + "\n" + lines("\n", 198) + "echo a\n" + hundred);
        Check.shows(x, 0, "run s", 0, "a\n");
        Check.line(x, 0, "set l 12345678901234567890", 0);
        file(x, "s", "-$l$l$l$l$l$l\n" + lines("\n", 197) + "echo a\n");
        Check.shows(x, 0, "run s", 0, "a\n");
        file(x, "s", "-$l$l$l$l$l$l\n" + lines("\n", 198) + "echo a\n");
        Check.shows(x, 0, "run s", -20, "");
        // at 200 a line of more than 100 bytes is still 18
        file(x, "s", lines("\n", 199) + hundred.substring(1) + "1");
        Check.line(x, 0, "run s", -18);
        // if and for count with what they do
        file(x, "s", lines("\n", 195) + "if a = a if a = a echo a\necho b\n");
        Check.shows(x, 0, "run s", 0, "a\nb\n");
        file(x, "s", lines("\n", 196) + "if a = a if a = a echo a\necho b\n");
        Check.shows(x, 0, "run s", -20, "a\n");
        file(x, "s", lines("\n", 195) + "for x in a b c d do echo $$x");
        Check.shows(x, 0, "run s", -20, "a\nb\nc\n");
        Check.due("the VARIABLE is set before", variable(x, 0, 'x'), "d");
        Check.line(x, 0, "echo a", 0);
    }

    private static String ifs(int n) {
        return lines("if a = a ", n).substring(0, 9 * n);
    }

    private static String lines(String line, int n) {
        StringBuilder text = new StringBuilder();
        for (int i = 0; i < n; i++) {
            text.append(line);
        }
        return text.toString();
    }

    private static void leaving() {
        SpaceHouse x = Check.house(1);
        x.login(1);
        x.login(1);
        Check.shows(x, 0, "for x in a b do exit", 0, "");
        Check.due("it went", x.process(0, 0), -1);
        Check.due("x", x.process(1, 0), 1);
        file(x, "s", "echo a\nfor y in 1 2 do exit\nnonsense\n");
        Check.due("login", x.login(1), 0);
        Check.line(x, 0, "for x in a b do run s", 0);
        Check.due("it went", x.process(0, 0), -1);
        file(x, "t", "if a = a exit\nnonsense");
        Check.line(x, 1, "if a = a run t", 0);
        Check.due("it went", x.process(1, 0), -1);
        // it is there until the line is done
        file(x, "t", "-exit\necho a\n");
        Check.line(x, 2, "run t", 0);
        Check.due("it went", x.process(2, 0), -1);
        Check.due("fids", x.server(0, 2), 0);
    }
}
