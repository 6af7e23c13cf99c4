import java.nio.charset.StandardCharsets;

/** What the tests share: calls in words, and a count of those that did not answer as is due. */
final class Check {
    private static int wrong = 0;
    private static int asked = 0;

    private Check() {
    }

    static void due(String what, long got, long want) {
        asked++;
        if (got != want) {
            wrong++;
            System.out.println(what + ": answered " + got + ", due is " + want);
        }
    }

    static void due(String what, String got, String want) {
        asked++;
        if (!got.equals(want)) {
            wrong++;
            System.out.println(what + ": answered <" + got + ">, due is <" + want + ">");
        }
    }

    static void end(String name) {
        System.out.println(name + ": " + asked + " answers, " + wrong + " not as due");
        if (wrong != 0) {
            System.exit(1);
        }
    }

    /** Puts a text on THE LINE. */
    static void type(SpaceHouse x, String text) {
        byte[] bytes = text.getBytes(StandardCharsets.ISO_8859_1);
        for (int i = 0; i < bytes.length; i += 8) {
            int n = Math.min(8, bytes.length - i);
            long w = 0;
            for (int j = n - 1; j >= 0; j--) {
                w = w << 8 | bytes[i + j] & 255;
            }
            x.type(w, n);
        }
    }

    /** Enters a line and checks what it answers. */
    static void line(SpaceHouse x, int process, String text, int want) {
        type(x, text);
        due("enter " + text, x.enter(process), want);
    }

    /** Enters a line that is to answer 0 and checks what is in OUT then. */
    static void shows(SpaceHouse x, int process, String text, String want) {
        shows(x, process, text, 0, want);
    }

    static void shows(SpaceHouse x, int process, String text, int answer, String want) {
        x.wipe(process);
        line(x, process, text, answer);
        due("out of " + text, out(x, process), want);
        x.wipe(process);
    }

    static String out(SpaceHouse x, int process) {
        StringBuilder text = new StringBuilder();
        for (int i = 0; x.out(process, i) >= 0; i++) {
            text.append((char) x.out(process, i));
        }
        return text.toString();
    }

    static String dot(SpaceHouse x, int process) {
        StringBuilder text = new StringBuilder();
        for (int i = 0; x.dot(process, i) >= 0; i++) {
            text.append((char) x.dot(process, i));
        }
        return text.toString();
    }

    static String console(SpaceHouse x) {
        StringBuilder text = new StringBuilder();
        for (int i = 0; x.console(i) >= 0; i++) {
            text.append((char) x.console(i));
        }
        return text.toString();
    }

    static void input(SpaceHouse x, String text) {
        for (int i = 0; i < text.length(); i++) {
            x.input(text.charAt(i));
        }
    }

    /** The types of the messages from k on, a blank between: pairs of what is asked and answered. */
    static String kinds(SpaceHouse x, int k) {
        StringBuilder text = new StringBuilder();
        for (int i = k; i < x.messages(); i++) {
            text.append(i == k ? "" : " ").append(x.message(i, 4));
        }
        return text.toString();
    }

    /** A SpaceHouse with a process 0 of that user. */
    static SpaceHouse house(int user) {
        SpaceHouse x = new SpaceHouse();
        due("login", x.login(user), 0);
        return x;
    }

    /** Message k as hexadecimal digits. */
    static String message(SpaceHouse x, int k) {
        StringBuilder text = new StringBuilder();
        for (int i = 0; x.message(k, i) >= 0; i++) {
            text.append(String.format("%02x", x.message(k, i)));
        }
        return text.toString();
    }
}
