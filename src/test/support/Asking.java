/** What the tests that ask call by call have in common: making objects, asking them, and complaining. */
abstract class Asking {
    static final String STATE = "IllegalStateException";
    static final String ARGUMENT = "IllegalArgumentException";
    static final String INDEX = "IndexOutOfBoundsException";
    static final int NONE = PartFormulas.NONE;
    static final long LARGEST = 1000000000L;

    private static int wrong = 0;
    private static String sentence = "";

    interface Call {
        Object make();
    }

    /** Tells which words of the document the calls that follow are held against. */
    static void sentence(String words) {
        sentence = words;
    }

    static void complain(String what) {
        wrong++;
        System.out.println((sentence.isEmpty() ? "" : "\"" + sentence + "\": ") + what);
    }

    /** Ends the program with exit code 1 if an answer was not as due. */
    static void finish(String praise) {
        System.out.println(wrong == 0 ? praise : wrong + " answers are not as due");
        if (wrong != 0) {
            System.exit(1);
        }
    }

    static void due(String what, Object want, Call call) {
        Object got;
        try {
            got = call.make();
        } catch (RuntimeException e) {
            got = e.getClass().getSimpleName();
        }
        Object plainGot = got instanceof Integer ? Long.valueOf((Integer) got) : got;
        Object plainWant = want instanceof Integer ? Long.valueOf((Integer) want) : want;
        if (!plainWant.equals(plainGot)) {
            complain(what + " answered " + got + ", due is " + want);
        }
    }

    static void type(PartFormulas f, String text) {
        for (int i = 0; i < text.length(); i++) {
            char c = text.charAt(i);
            due("unit(" + c + ")", true, () -> f.unit(c));
        }
    }

    static int read(PartFormulas f, String text) {
        type(f, text);
        return f.read();
    }

    /** A new object that has read a text. */
    static PartFormulas with(String text) {
        PartFormulas f = new PartFormulas();
        int answer = read(f, text);
        if (answer < 1) {
            complain("not read: " + text + ": " + answer);
        }
        return f;
    }

    /** A new object that has read a text and worked it out. */
    static PartFormulas ran(String text) {
        PartFormulas f = with(text);
        f.run();
        return f;
    }

    static String printed(PartFormulas f) {
        StringBuilder b = new StringBuilder();
        for (int i = 0; i < 401; i++) {
            int c = f.write(i);
            if (c == NONE) {
                return b.toString();
            }
            b.append((char) c);
        }
        return b.toString();
    }

    /** A cell as a text: its VALUE as a fraction, or what it is else. */
    static String cell(PartFormulas f, String name) {
        int part = name.charAt(0) - 'A';
        int measure = "whdxyz".indexOf(name.charAt(1));
        int state = f.state(part, measure);
        return state == 1 ? f.size(part, measure, 0) + "/" + f.size(part, measure, 1) : "state " + state;
    }

    static void dueCell(String text, String name, String want) {
        due(text + ": " + name, want, () -> cell(ran(text), name));
    }

    static void dueRead(String text, int want) {
        due("read " + text, want, () -> read(new PartFormulas(), text));
    }

    static void duePrinted(String text, String want) {
        due("printed " + text, want, () -> printed(with(text)));
        due("printed again " + want, want, () -> printed(with(want)));
    }

    static String repeat(String part, int times) {
        return part.repeat(times);
    }

    /** As many definitions as are told, of different cells. */
    static String definitions(int count) {
        StringBuilder b = new StringBuilder();
        for (int i = 0; i < count; i++) {
            b.append(i > 0 ? ";" : "").append((char) ('A' + i / 6)).append("whdxyz".charAt(i % 6)).append("=1");
        }
        return b.toString();
    }

    /** 24 definitions, each but the last needing the next one, which is larger by 1. */
    static String chain() {
        String[] names = definitions(24).replace("=1", "").split(";");
        StringBuilder b = new StringBuilder();
        for (int i = 0; i < 23; i++) {
            b.append(names[i]).append('=').append(names[i + 1]).append("-1;");
        }
        return b.append(names[23]).append("=a").toString();
    }
}
