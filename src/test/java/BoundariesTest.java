import java.util.ArrayList;
import java.util.List;

/** Each sentence of the document that names a boundary case, with a test of its own, in its order. */
public final class BoundariesTest extends Asking {
    private static final String MEASURES = "whdxyz";
    /** Ten thousand times itself and ten: the largest numerator or denominator. */
    private static final String MOST = "10000*10000*10";

    private static String name(int cell) {
        return "" + (char) ('A' + cell / 6) + MEASURES.charAt(cell % 6);
    }

    /** Due is that a text can't be read from the place on at which a part of it stands. */
    private static void dueRefused(String before, String refused) {
        dueRead(before + refused, -1 - before.length());
    }

    private static String joined(String part, int times) {
        return repeat(part + ";", times - 1) + part;
    }

    // ---- What it is

    private static void usedFor512Calls() {
        sentence("An object is used for at most 512 calls after it has been made; what later calls answer is free.");
        PartFormulas typed = new PartFormulas();
        type(typed, "Aw=" + repeat("1+", 198) + "1");
        due("call 401 reads 400 characters", 1, typed::read);
        due("call 402 works them out", 0, typed::run);
        for (int call = 403; call < 512; call++) {
            int c = call;
            due("call " + c, true, () -> typed.set(0, c, 1));
        }
        due("call 512", 199, () -> typed.size(0, 0, 0));

        PartFormulas changed = ran(chain());
        int left = 512 - chain().length() - 2;
        for (int call = 1; call < left; call++) {
            int c = call;
            due("change " + c, true, () -> changed.set(0, c % 2 == 0 ? -LARGEST : LARGEST, 1 + c));
        }
        due("the last call tells them all", 24L * left, changed::reckoned);

        PartFormulas read = new PartFormulas();
        for (int call = 1; call <= 500; call += 5) {
            due("a text at calls up to " + (call + 4), 1, () -> read(read, "Aw=a"));
        }
        due("call 501", 0, read::run);
        for (int call = 502; call < 512; call++) {
            due("call " + call, NONE, () -> read.check(50));
        }
        due("call 512", 1, read::reckoned);
    }

    // ---- Terms

    private static void optionsAreAToH() {
        sentence("OPTIONS 0 .. 7 are told by the letters a .. h; they are fractions, 0 at first.");
        for (int option = 0; option < 8; option++) {
            int o = option;
            String text = "Aw=" + (char) ('a' + o);
            dueCell(text, "Aw", "0/1");
            due(text + " with only that option set", "5/3", () -> {
                PartFormulas f = with(text);
                f.set(o, 5, 3);
                f.run();
                return cell(f, "Aw");
            });
        }
        dueRefused("Aw=", "i");
        dueRefused("Aw=", "`");
        dueRefused("Aw=", "z");
        due("option 7", true, () -> new PartFormulas().set(7, 1, 1));
        due("option 8", INDEX, () -> new PartFormulas().set(8, 1, 1));
        due("option -1", INDEX, () -> new PartFormulas().set(-1, 1, 1));
        due("option MAX", INDEX, () -> new PartFormulas().set(Integer.MAX_VALUE, 1, 1));
        due("option MIN", INDEX, () -> new PartFormulas().set(Integer.MIN_VALUE, 1, 1));
    }

    private static void cellsAreSixOfTenParts() {
        sentence("CELLS are six of each of ten PARTS (letters A .. J): w, h, d, x, y, z (0 .. 5); "
                + "cell number 6 * part + 0 .. 5.");
        for (int cell = 0; cell < 60; cell++) {
            int c = cell;
            PartFormulas f = ran(name(c) + "=" + name(c));
            due("number of " + name(c), c, () -> f.ring(0));
            due("no other one", NONE, () -> f.ring(1));
            due("it is itself", 4, () -> f.state(c / 6, c % 6));
            due("its line", 0, () -> f.line(c / 6, c % 6));
        }
        for (char c = 33; c < 127; c++) {
            if ((c < 'A' || c > 'J') && c != '!') {
                dueRefused("", c + "w=1");
            }
            if (MEASURES.indexOf(c) < 0) {
                dueRefused("A", c + "=1");
                dueRefused("Aw=A", "" + c);
            }
        }
    }

    private static void textHasAtMost400Characters() {
        sentence("A TEXT is a row of at most 400 characters");
        PartFormulas f = new PartFormulas();
        String text = "Aw=" + repeat("1+", 198) + "1";
        due("its length", 400, text::length);
        type(f, text);
        due("a 401st character", false, () -> f.unit('+'));
        due("a 402nd character", false, () -> f.unit('1'));
        due("400 characters are read", 1, f::read);
        due("the last one is printed", (int) '1', () -> f.write(399));
        due("no more", NONE, () -> f.write(400));
        f.run();
        due("all were reckoned", "199/1", () -> cell(f, "Aw"));
        PartFormulas g = new PartFormulas();
        type(g, "Aw=" + repeat("1+", 198) + "(");
        due("400 characters with more to come", -401, g::read);
    }

    private static void statementsAre1To24() {
        sentence("STATEMENTS, 1 to 24, with ; (59) between them");
        dueRead("", -1);
        dueRead("!1<2", 1);
        dueRead(joined("!1<2", 24), 24);
        dueRefused(joined("!1<2", 24), ";!1<2");
        dueRefused(joined("!1<2", 24), ";");
        dueRead(definitions(24), 24);
        dueRefused(definitions(24), ";Jz=1");
        dueRefused(definitions(24), ";!1<2");
        dueRead(definitions(23) + ";!1<2", 24);
        dueRefused("", ";Aw=1");
        dueRefused("Aw=1;", "");
        dueRefused("Aw=1;", ";Ah=1");
        dueRefused("Aw=1", ",Ah=1");
        dueRefused("Aw=1", ":Ah=1");
        dueRefused("Aw=1", "Ah=1");
    }

    private static void definitionOrLimit() {
        sentence("a DEFINITION: a part's letter and one of w h d x y z, = (61), and a CHOICE; "
                + "or a LIMIT: ! (33) and a CONDITION.");
        for (String refused : new String[] {"", "1", "<1", ">1", ":=1", "!", "w=1", ";"}) {
            dueRefused("Aw", refused);
        }
        for (String refused : new String[] {"", ";", "=1", "?", "<", "!1<2"}) {
            dueRefused("Aw=", refused);
        }
        for (String refused : new String[] {"", ";", "=1", "!1<2", "<1"}) {
            dueRefused("!", refused);
        }
        dueRefused("!1", "");
        dueRefused("!1", "?2:3");
        dueRefused("!1<2", "?3:4");
        dueRefused("!1<2", "<3");
        dueRefused("!1<", "");
    }

    private static void atMostFourConditions() {
        sentence("(at most four conditions in one definition: the sign of a fifth one can't be there)");
        String four = "Aw=" + repeat("1>2?3:", 4);
        dueRead("Aw=5", 1);
        dueRead("Aw=1>2?3:5", 1);
        dueRead(four + "5", 1);
        for (String sign : new String[] {"<", ">", "="}) {
            dueRefused(four + "5", sign + "6?7:8");
            dueRefused(four + "5", sign);
            dueRefused(four + "(5+a)*2", sign + "6");
        }
        dueRefused(four + "5", "?6:7");
        dueRefused(four + "5", ":6");
        dueRead(four + "5;" + four.replace('A', 'B') + "5;!1<2;!1<2;" + four.replace('A', 'C') + "5", 5);
        dueRefused("Jz=1<2?3:4;" + four + "5", "=6?7:8");
        due("none of four holds", 4, () -> ran(four + "5").condition(0, 0));
        dueCell(four + "5", "Aw", "5/1");
    }

    private static void choiceIsWhole() {
        sentence("A choice is an EXPRESSION; or a condition, ? (63), an expression, : (58), and a choice");
        for (String before : new String[] {"Aw=", "Aw=1<", "Aw=1<2?", "Aw=1<2?3:", "Aw=1<2?3:4>", "Aw=1<2?3:4>5?6:"}) {
            dueRefused(before, "");
            dueRefused(before, ";");
            dueRefused(before, "?");
            dueRefused(before, ":");
            dueRefused(before, "<");
        }
        for (String before : new String[] {"Aw=1<2", "Aw=1<2?3", "Aw=1<2?3:4=5", "Aw=1<2?3:4=5?6"}) {
            dueRefused(before, "");
            dueRefused(before, ";");
            dueRefused(before, "=3");
        }
        dueRefused("Aw=1", "?2:3");
        dueRefused("Aw=1<2", ":3");
        dueRefused("Aw=1<2?3", "?4");
        dueRefused("Aw=(1", "<2?3:4)");
    }

    private static void conditionHasOneSign() {
        sentence("A condition is an expression, one of < > = (60, 62, 61), and an expression.");
        String[][] rows = {{"1<2", "7/1"}, {"2<2", "8/1"}, {"3<2", "8/1"}, {"1>2", "8/1"}, {"2>2", "8/1"},
            {"3>2", "7/1"}, {"1=2", "8/1"}, {"2=2", "7/1"}, {"3=2", "8/1"}, {"4/6=2/3", "7/1"}, {"-1/2<-1/3", "7/1"},
            {"-1<0", "7/1"}, {"0=-0", "7/1"}};
        for (String[] row : rows) {
            dueCell("Aw=" + row[0] + "?7:8", "Aw", row[1]);
            due("!" + row[0], row[1].equals("7/1") ? NONE : 1, () -> ran("!" + row[0]).limit(0, 1));
        }
        dueRefused("!1<", "=2");
        dueRefused("!1=", "=2");
        dueRefused("!1", "!=2");
        dueRefused("!1", ";");
    }

    private static void expressionFromTheLeft() {
        sentence("An expression is a TERM or more, with + (43) or - (45) between them; a term a FACTOR or more, "
                + "with * (42) or / (47) between them; both reckoned from the left on.");
        dueCell("Aw=9-4-3", "Aw", "2/1");
        dueCell("Aw=9-4+3", "Aw", "8/1");
        dueCell("Aw=24/4/3", "Aw", "2/1");
        dueCell("Aw=24/4*3", "Aw", "18/1");
        dueCell("Aw=1+2*3-8/4", "Aw", "5/1");
        dueCell("Aw=10000*10000*100/100", "Aw", "state 3");
        dueCell("Aw=10000*10000/100*100", "Aw", "100000000/1");
        for (String refused : new String[] {"", "+1", "*1", "/1", ")", "<1", ";", "?", ":"}) {
            for (String sign : new String[] {"+", "-", "*", "/"}) {
                dueRefused("Aw=1" + sign, refused);
            }
        }
        dueRefused("Aw=", "+1");
        dueRefused("Aw=", "*1");
        dueRefused("Aw=", "/1");
    }

    private static void numbersHaveSoManyDigits() {
        sentence("A factor is a number (1 to 5 digits, and perhaps a point (46) and 1 to 3 digits more)");
        dueCell("Aw=0", "Aw", "0/1");
        dueCell("Aw=99999", "Aw", "99999/1");
        dueCell("Aw=00001", "Aw", "1/1");
        dueRefused("Aw=99999", "9");
        dueRefused("Aw=00000", "1");
        dueCell("Aw=0.5", "Aw", "1/2");
        dueCell("Aw=0.25", "Aw", "1/4");
        dueCell("Aw=0.001", "Aw", "1/1000");
        dueCell("Aw=99999.999", "Aw", "99999999/1000");
        dueCell("Aw=12345.000", "Aw", "12345/1");
        dueRefused("Aw=1.234", "5");
        dueRefused("Aw=1.000", "0");
        dueRefused("Aw=12345", "6.5");
        dueRefused("Aw=1.", "");
        dueRefused("Aw=1.", ";");
        dueRefused("Aw=1.", ".5");
        dueRefused("Aw=1.", "a");
        dueRefused("Aw=1.5", ".5");
        dueRefused("Aw=1.234", ".5");
        dueRefused("Aw=", ".5");
        dueRefused("Aw=1", "a");
        dueRefused("Aw=1", "(2)");
        dueRefused("Aw=a", "1");
        dueRefused("Aw=Bw", "1");
    }

    /** Every row of so many - and ( in one another, by the bits of a number. */
    private static String opened(int bits, int count) {
        StringBuilder b = new StringBuilder();
        for (int i = 0; i < count; i++) {
            b.append((bits >> i & 1) == 0 ? '-' : '(');
        }
        return b.toString();
    }

    private static void atMostEightInOneAnother() {
        sentence("- and a factor, or ( (40), an expression, ) (41), at most eight of these in one another.");
        for (int bits = 0; bits < 256; bits++) {
            String eight = opened(bits, 8);
            int groups = Integer.bitCount(bits);
            String closed = repeat(")", groups);
            boolean isNegative = (8 - groups) % 2 == 1;
            dueCell("Aw=" + eight + "5" + closed, "Aw", isNegative ? "-5/1" : "5/1");
            dueRefused("Aw=" + eight, "-5" + closed);
            dueRefused("Aw=" + eight, "(5)" + closed);
            dueRefused("Aw=" + eight + "5" + closed, ")");
        }
        dueRefused("Aw=" + repeat("(", 8), "");
        dueRefused("Aw=" + repeat("(", 8) + "1" + repeat(")", 7), "");
        dueRefused("Aw=" + repeat("-", 8), "");
        dueRefused("Aw=" + repeat("(", 8), repeat("(", 389));
        dueRefused("Aw=" + repeat("-", 8), repeat("-", 389));
    }

    private static void closedOnesCountNoMore() {
        sentence("at most eight of these in one another.");
        String eight = repeat("(", 8) + "1" + repeat(")", 8);
        String minus = repeat("-", 8) + "1";
        dueCell("Aw=" + eight + "+" + eight + "*" + eight, "Aw", "2/1");
        dueCell("Aw=" + minus + "-" + minus + "*" + minus, "Aw", "0/1");
        dueCell("Aw=" + repeat("(1)+", 30) + "(-1)", "Aw", "29/1");
        dueCell("Aw=" + repeat("-1*", 31) + "1", "Aw", "-1/1");
        dueCell("Aw=" + repeat("-(1)*", 31) + "1", "Aw", "-1/1");
        dueCell("Aw=" + repeat("-(1)--(-1)-", 15) + "1", "Aw", "-3/1");
        dueCell("Aw=" + repeat("(", 7) + repeat("(1)+", 9) + "-1" + repeat(")", 7), "Aw", "8/1");
        dueRefused("Aw=" + repeat("(", 7) + "(1)+(1)*-", "-1" + repeat(")", 7));
        dueRead("Aw=" + eight + "<" + eight + "?" + minus + ":" + eight + ";Bw=" + eight + ";!" + minus + ">" + minus, 3);
        dueCell("Aw=" + repeat("1+2*(", 8) + "1+2*3" + repeat(")", 8), "Aw", "2047/1");
        dueCell("Aw=" + repeat("9-8/(", 8) + "9-8/8" + repeat(")", 8), "Aw", "8/1");
    }

    private static void definedOnceAlone() {
        sentence("A cell that is defined already can't be there before = (told at its first letter).");
        dueRefused("Aw=1;", "Aw=2");
        dueRefused("Aw=1;", "Aw=");
        dueRefused("Aw=1;", "Aw");
        dueRefused("Aw=1;", "Aw+1");
        dueRefused("Aw=1;Bw=2;!Aw<3;", "Bw=2;Cw=3");
        dueRefused("Jz=Jz;Jy=Jz;", "Jz=1");
        dueRefused(definitions(23) + ";", "Aw=1");
        dueRefused(definitions(23) + ";", name(22) + "=1");
        for (int cell = 0; cell < 60; cell++) {
            dueRefused(name(cell) + "=1;", name(cell) + "=1");
            dueRead(name(cell) + "=1;" + name((cell + 1) % 60) + "=1;" + name((cell + 6) % 60) + "=1", 3);
        }
        dueRefused("Aw=1;A", "");
        dueRefused("Aw=1;A", "A=1");
        dueRead("Aw=1;!Aw=1;Bw=Aw=1?Aw:Aw;Cw=Aw", 4);
        dueRead("Bw=Aw=1?2:3;!Aw=Aw;Aw=1", 3);
    }

    private static void definedInAnotherTextIsFree() {
        sentence("A cell that is defined already can't be there before =");
        PartFormulas f = new PartFormulas();
        due("a text that fails behind a definition", -6, () -> read(f, "Aw=1;"));
        due("its cell is free", 1, () -> read(f, "Aw=2"));
        due("and free again in the next text", 2, () -> read(f, "Aw=3;Bw=Aw"));
        due("once", -6, () -> read(f, "Bw=3;Bw=4"));
        f.run();
        due("the last good text counts", "3/1", () -> cell(f, "Bw"));
    }

    private static void fractionsAreShort() {
        sentence("FRACTIONS are told without a common divisor, the denominator above 0.");
        dueCell("Aw=6/4", "Aw", "3/2");
        dueCell("Aw=6/-4", "Aw", "-3/2");
        dueCell("Aw=-6/-4", "Aw", "3/2");
        dueCell("Aw=0/-7", "Aw", "0/1");
        dueCell("Aw=-0", "Aw", "0/1");
        dueCell("Aw=1/6+1/3", "Aw", "1/2");
        dueCell("Aw=5/6-1/3", "Aw", "1/2");
        dueCell("Aw=1/2-1/2", "Aw", "0/1");
        dueCell("Aw=2/3*3/2", "Aw", "1/1");
        dueCell("Aw=1/2/(-1/3)", "Aw", "-3/2");
        dueCell("Aw=-1/2/(-3/5)", "Aw", "5/6");
        dueCell("Aw=1/2/(1/3)", "Aw", "3/2");
        dueCell("Aw=0.500", "Aw", "1/2");
        due("an option", "-1/2", () -> {
            PartFormulas f = ran("Aw=a");
            f.set(0, -LARGEST / 2, LARGEST);
            return cell(f, "Aw");
        });
    }

    private static void ringsNeedThemselves() {
        sentence("a cell NEEDS those that its choice mentions, wherever. "
                + "Cells that need themselves, at once or by others, are a RING (4).");
        String[] rings = {"Aw=Aw", "Aw=0*Aw", "Aw=1<2?3:Aw", "Aw=1<2?Aw:3", "Aw=Aw<1?2:3", "Aw=1>Aw?2:3",
            "Aw=1<2?3:4<5?6:7<8?9:1<Aw?2:3", "Aw=-(-(Aw))", "Aw=1/0+Aw", "Aw=Bw;Bw=Aw", "Bw=Cw;Cw=Aw;Aw=Bw"};
        for (String text : rings) {
            dueCell(text, "Aw", "state 4");
            due(text + ": a ring when read", 0, () -> with(text).ring(0));
        }
        String[] others = {"Aw=Bw;Bw=Bw", "Aw=1;!Aw=Aw", "Aw=Bw+Bw;Bw=1", "Aw=Ah"};
        for (String text : others) {
            due(text + ": no ring", false, () -> with(text).needs(0, 0));
            due(text + ": another state", false, () -> ran(text).state(0, 0) == 4);
        }
        String closed = chain().replace("=a", "=Aw");
        PartFormulas f = ran(closed);
        for (int i = 0; i < 24; i++) {
            int k = i;
            due("a ring of 24", k, () -> f.ring(k));
            due("each is one", 4, () -> f.state(k / 6, k % 6));
        }
        due("no more than 24", NONE, () -> f.ring(24));
        due("nothing was reckoned", 0, f::reckoned);
    }

    private static void reckonedWhenNeedsAre() {
        sentence("Others are reckoned when all that they need are (or are rings, or not defined), by their choice: "
                + "conditions in turn, until one holds, and the expression behind it; the last one if none does.");
        dueCell(chain(), "Aw", "-23/1");
        dueCell("Aw=1<2?3:Bw;Bw=Bw", "Aw", "3/1");
        dueCell("Aw=1<2?3:Bw", "Aw", "3/1");
        dueCell("Aw=1<2?3:1/0", "Aw", "3/1");
        dueCell("Aw=1<2?3:1/0<1?2:3", "Aw", "3/1");
        dueCell("Aw=1>2?1/0:3", "Aw", "3/1");
        dueCell("Aw=1>2?1/0:4>3?5:1/0", "Aw", "5/1");
        dueCell("Aw=1<2?3:1<2?4:5", "Aw", "3/1");
        dueCell("Aw=1>2?3:2>3?4:5", "Aw", "5/1");
        dueCell("Aw=1/0<2?3:4", "Aw", "state 2");
        dueCell("Aw=Bw<2?3:4", "Aw", "state 5");
    }

    private static void divisionByZero() {
        sentence("DIVISION by 0 (2)");
        dueCell("Aw=1/0", "Aw", "state 2");
        dueCell("Aw=0/0", "Aw", "state 2");
        dueCell("Aw=1/0.000", "Aw", "state 2");
        dueCell("Aw=1/-0", "Aw", "state 2");
        dueCell("Aw=1/a", "Aw", "state 2");
        dueCell("Aw=1/(1/3-1/3)", "Aw", "state 2");
        dueCell("Aw=0*(1/0)", "Aw", "state 2");
        dueCell("Aw=0/1", "Aw", "0/1");
        dueCell("Aw=1/0.001", "Aw", "1000/1");
    }

    private static void bigAbove1000000000() {
        sentence("BIG (3): a numerator's size or a denominator above 1000000000 "
                + "(of a sum, difference, product or quotient, without a common divisor, or of a number)");
        String least = "1/10000/10000/10";
        String[][] rows = {
            {MOST, LARGEST + "/1"}, {"-" + MOST, -LARGEST + "/1"}, {least, "1/" + LARGEST},
            {MOST + "+0", LARGEST + "/1"}, {MOST + "+1", "state 3"}, {MOST + "-1+1", LARGEST + "/1"},
            {"-" + MOST + "-0", -LARGEST + "/1"}, {"-" + MOST + "-1", "state 3"}, {"0-" + MOST + "-1", "state 3"},
            {MOST + "*1", LARGEST + "/1"}, {MOST + "*1.001", "state 3"}, {"31623*31623", "state 3"},
            {"31622*31622", "999950884/1"}, {"-31623*31623", "state 3"}, {"31623/(1/31623)", "state 3"},
            {"31622/(1/31622)", "999950884/1"}, {"1/31622/31622", "1/999950884"}, {"1/31623/31623", "state 3"},
            {"1/31623*(1/31623)", "state 3"}, {"1/31622+1/31623", "63245/999982506"}, {"1/31623+1/31627", "state 3"},
            {"1/31627-1/31623", "state 3"}, {MOST + "/3+1/3", "state 3"}, {MOST + "/2+1/2", "state 3"},
            {MOST + "/2*2", LARGEST + "/1"}, {"99999*10000/3*3", "999990000/1"}, {"(" + MOST + ")*(" + least + ")", "1/1"},
            {"(" + MOST + ")/(" + MOST + ")", "1/1"}, {"(" + least + ")/(" + least + ")", "1/1"},
            {"(" + MOST + ")/(" + least + ")", "state 3"}, {"(" + least + ")/(" + MOST + ")", "state 3"},
            {MOST + "-" + MOST, "0/1"}, {MOST + "+(" + MOST + ")", "state 3"}, {least + "+(" + least + ")", "1/500000000"},
            {"99999*99999*0", "state 3"}, {"0*(99999*99999)", "state 3"}, {"99999.999", "99999999/1000"}};
        for (String[] row : rows) {
            dueCell("Aw=" + row[0], "Aw", row[1]);
        }
        dueCell("Aw=" + MOST + ">" + least + "?7:8", "Aw", "7/1");
        dueCell("Aw=-" + MOST + "<" + MOST + "?7:8", "Aw", "7/1");
        due("an option as large as it may be", LARGEST + "/" + (LARGEST - 1), () -> {
            PartFormulas f = ran("Aw=a");
            f.set(0, LARGEST, LARGEST - 1);
            return cell(f, "Aw");
        });
        due("its opposite", -LARGEST + "/" + (LARGEST - 1), () -> {
            PartFormulas f = ran("Aw=-a");
            f.set(0, LARGEST, LARGEST - 1);
            return cell(f, "Aw");
        });
    }

    private static void missedWithoutAValue() {
        sentence("MISSED (5): a cell without a VALUE.");
        dueCell("Aw=Bw", "Aw", "state 5");
        dueCell("Aw=Bw;Bw=Bw", "Aw", "state 5");
        dueCell("Aw=Bw;Bw=1/0", "Aw", "state 5");
        dueCell("Aw=Bw;Bw=99999*99999", "Aw", "state 5");
        dueCell("Aw=Bw;Bw=Cw", "Aw", "state 5");
        dueCell("Aw=Bw-Bw", "Aw", "state 5");
        dueCell("Aw=0*Bw", "Aw", "state 5");
    }

    private static void firstReasonFromTheLeft() {
        sentence("What can't be reckoned is told by the first reason that comes, from the left on, "
                + "each part before what it is put together by");
        String big = "99999*99999";
        dueCell("Aw=1/0+Bw", "Aw", "state 2");
        dueCell("Aw=Bw+1/0", "Aw", "state 5");
        dueCell("Aw=Bw/0", "Aw", "state 5");
        dueCell("Aw=1/0*Bw", "Aw", "state 2");
        dueCell("Aw=1/(0*Bw)", "Aw", "state 5");
        dueCell("Aw=1/0/(" + big + ")", "Aw", "state 2");
        dueCell("Aw=" + big + "/0", "Aw", "state 3");
        dueCell("Aw=" + big + "+Bw", "Aw", "state 3");
        dueCell("Aw=Bw+" + big, "Aw", "state 5");
        dueCell("Aw=99999*(99999+Bw)", "Aw", "state 5");
        dueCell("Aw=-(1/0)+Bw", "Aw", "state 2");
        dueCell("Aw=1/0<Bw?1:2", "Aw", "state 2");
        dueCell("Aw=Bw<1/0?1:2", "Aw", "state 5");
        dueCell("Aw=1>2?Bw:1/0", "Aw", "state 2");
        dueCell("Aw=1<2?" + big + ":Bw", "Aw", "state 3");
        dueCell("Aw=" + big + ">1?1/0:Bw", "Aw", "state 3");
        due("in a limit, the left side first", 2, () -> ran("!1/0<Bw").limit(0, 1));
        due("in a limit, the right side then", 5, () -> ran("!1<Bw+1/0").limit(0, 1));
    }

    private static void undefinedIsZero() {
        sentence("Else it has a VALUE (1). 0: it is not defined.");
        PartFormulas f = ran("Aw=Ah;!Bw=1;Jz=0");
        for (int cell = 0; cell < 60; cell++) {
            int c = cell;
            due("state of " + name(c), c == 0 ? 5 : c == 59 ? 1 : 0, () -> f.state(c / 6, c % 6));
        }
    }

    private static void limitsHoldOrAreBroken() {
        sentence("A limit HOLDS if its condition does; it is BROKEN if not, or if that can't be reckoned.");
        due("holds", NONE, () -> ran("!1<2").limit(0, 0));
        due("at its edge", 1, () -> ran("!2<2").limit(0, 1));
        due("division", 2, () -> ran("!2<2/0").limit(0, 1));
        due("big", 3, () -> ran("!2<99999*99999").limit(0, 1));
        due("missed, not defined", 5, () -> ran("!Aw<2").limit(0, 1));
        due("missed, a ring", 5, () -> ran("Aw=Aw;!Aw<2").limit(0, 1));
        due("missed, a division", 5, () -> ran("Aw=1/0;!Aw<2").limit(0, 1));
    }

    private static void numbersPrinted() {
        sentence("PRINTED is a text as it was read, but numbers without zeros before them, "
                + "and behind the point none at the end (nor a point with nothing behind it)");
        String[][] rows = {
            {"0", "0"}, {"00", "0"}, {"00000", "0"}, {"01", "1"}, {"00001", "1"}, {"10", "10"}, {"01010", "1010"},
            {"10000", "10000"}, {"99999", "99999"}, {"0.0", "0"}, {"00000.000", "0"}, {"0.5", "0.5"}, {"00.5", "0.5"},
            {"0.50", "0.5"}, {"0.500", "0.5"}, {"0.05", "0.05"}, {"0.050", "0.05"}, {"0.005", "0.005"}, {"1.0", "1"},
            {"1.000", "1"}, {"10.0", "10"}, {"10.10", "10.1"}, {"100.001", "100.001"}, {"00100.100", "100.1"},
            {"99999.999", "99999.999"}, {"1.101", "1.101"}};
        for (String[] row : rows) {
            duePrinted("Aw=" + row[0], "Aw=" + row[1]);
            duePrinted("!-" + row[0] + "<a*" + row[0] + ";Bz=" + row[0] + "=(" + row[0] + ")?" + row[0] + ":" + row[0],
                    "!-" + row[1] + "<a*" + row[1] + ";Bz=" + row[1] + "=" + row[1] + "?" + row[1] + ":" + row[1]);
        }
    }

    private static void groupsPrinted() {
        sentence("and with no ( ) but those that are needed: around a sum or difference that is a factor, "
                + "or behind + or -; around a product or quotient that is behind * or /, "
                + "or that a - is put before (as a factor).");
        String[] inner = {"a", "7", "Bw", "-a", "--a", "a+b", "a-b", "-a+b", "a*b", "a/b", "-a*b", "a+b*c", "a*b-c"};
        // Around what is no sum: 0, a product or quotient: 1, a sum or difference: 2.
        int[] shape = {0, 0, 0, 0, 0, 2, 2, 2, 1, 1, 1, 2, 2};
        String[] around = {"", "+c", "-c", "*c", "/c"};
        String[] before = {"", "c+", "c-", "c*", "c/", "-", "c--", "c*-"};
        for (int i = 0; i < inner.length; i++) {
            for (String left : before) {
                for (String right : around) {
                    boolean isFactor = left.endsWith("*") || left.endsWith("/") || left.equals("-") || left.endsWith("-")
                            && left.length() == 3;
                    boolean isBehindSum = left.equals("c+") || left.equals("c-");
                    boolean isBeforeProduct = right.equals("*c") || right.equals("/c");
                    boolean isNeeded = shape[i] == 2 ? isFactor || isBehindSum || isBeforeProduct
                            : shape[i] == 1 && isFactor;
                    String plain = isNeeded ? "(" + inner[i] + ")" : inner[i];
                    String want = "Aw=" + left + plain + right;
                    duePrinted("Aw=" + left + "(" + inner[i] + ")" + right, want);
                    duePrinted("Aw=" + left + "((" + inner[i] + "))" + right, want);
                }
            }
        }
        duePrinted("Aw=" + repeat("(", 8) + "a" + repeat(")", 8), "Aw=a");
        duePrinted("Aw=c*" + repeat("(", 8) + "a+b" + repeat(")", 8) + ";!(1)<((2))", "Aw=c*(a+b);!1<2");
        duePrinted("Aw=" + repeat("-(", 4) + "a*b" + repeat(")", 4), "Aw=----(a*b)");
        duePrinted("Aw=" + repeat("c-(", 8) + "a" + repeat(")", 8), "Aw=" + repeat("c-(", 7) + "c-a" + repeat(")", 7));
        duePrinted("Aw=" + repeat("(", 8) + "a" + repeat("-c)", 8), "Aw=a" + repeat("-c", 8));
        duePrinted("Aw=(a+b)*(c)", "Aw=(a+b)*c");
        duePrinted("Aw=(a*b)-c/(d)", "Aw=a*b-c/d");
        duePrinted("Aw=((a+b))-c*(d)", "Aw=a+b-c*d");
        duePrinted("Aw=((a*b))-c*(d);Bw=-(e)", "Aw=a*b-c*d;Bw=-e");
        duePrinted("Aw=(a+b)<(c*d)?(e-f):(g)=(h)?(-a):((a+b)*c)", "Aw=a+b<c*d?e-f:g=h?-a:(a+b)*c");
    }

    private static void printedMeansTheSame() {
        sentence("texts are printed again");
        String[] texts = {"Aw=7-((3)-2)-(1)", "Aw=7/((6)/2)/(5)", "Aw=-(2+3)*(4-(1))", "Aw=(-(2*3))/(5)", "Aw=-((2)+(3*4))",
            "Aw=(2+3)-(4*(5-(6)))", "Aw=2*(3/(4*(5)))", "Aw=((2))-(-(3))-(-((4-5)))"};
        for (String text : texts) {
            due(text + " printed has the same value", cell(ran(text), "Aw"), () -> cell(ran(printed(with(text))), "Aw"));
        }
    }

    // ---- Exceptions

    private static PartFormulas scene() {
        PartFormulas f = ran("Aw=a*2;Bh=Aw<3?b:1/0;Cd=Cd;!Aw<1;!Bh=Jz");
        f.set(0, 3, 2);
        f.version();
        f.set(0, 1, 2);
        type(f, "Dx=4");
        return f;
    }

    /** All that an object tells, with fewer calls than an object has left behind scene(). */
    private static String picture(PartFormulas f) {
        StringBuilder b = new StringBuilder(printed(f)).append(" rings");
        for (int k = 0; k < 3; k++) {
            b.append(' ').append(f.ring(k));
        }
        b.append(" limits");
        for (int k = 0; k < 4; k++) {
            b.append(' ').append(f.limit(k, 0)).append(' ').append(f.limit(k, 1));
        }
        b.append(" differing");
        for (int k = 0; k < 4; k++) {
            b.append(' ').append(f.differs(0, k));
        }
        for (int cell = 0; cell < 60; cell++) {
            if (f.line(cell / 6, cell % 6) != NONE) {
                b.append(' ').append(cell(f, name(cell))).append('?').append(f.condition(cell / 6, cell % 6));
            }
        }
        b.append(' ').append(f.check(3)).append(' ').append(f.same()).append(' ').append(f.reckoned());
        b.append(f.set(0, 1, 2)).append(f.set(1, 0, 1)).append(f.set(7, 0, 1));
        return b.append(f.read()).append(' ').append(printed(f)).append(' ').append(f.reckoned()).toString();
    }

    private interface Use {
        Object of(PartFormulas f);
    }

    private static void dueThrownAndUnchanged(String what, String want, Use use) {
        PartFormulas f = scene();
        due(what, want, () -> use.of(f));
        due(what + " changes nothing", picture(scene()), () -> picture(f));
    }

    private static void throwingChangesNothing() {
        sentence("A call that throws changes nothing");
        dueThrownAndUnchanged("write(-1)", ARGUMENT, f -> f.write(-1));
        dueThrownAndUnchanged("set(8, 1, 1)", INDEX, f -> f.set(8, 1, 1));
        dueThrownAndUnchanged("set(-1, 1, 1)", INDEX, f -> f.set(-1, 1, 1));
        dueThrownAndUnchanged("set(0, 1, 0)", ARGUMENT, f -> f.set(0, 1, 0));
        dueThrownAndUnchanged("set(0, 10^9 + 1, 1)", ARGUMENT, f -> f.set(0, LARGEST + 1, 1));
        dueThrownAndUnchanged("set(1, 1, 10^9 + 1)", ARGUMENT, f -> f.set(1, 1, LARGEST + 1));
        dueThrownAndUnchanged("state(10, 0)", INDEX, f -> f.state(10, 0));
        dueThrownAndUnchanged("size(0, 6, 0)", INDEX, f -> f.size(0, 6, 0));
        dueThrownAndUnchanged("size(0, 0, 2)", ARGUMENT, f -> f.size(0, 0, 2));
        dueThrownAndUnchanged("size of a ring", STATE, f -> f.size(2, 2, 0));
        dueThrownAndUnchanged("ring(-1)", ARGUMENT, f -> f.ring(-1));
        dueThrownAndUnchanged("condition(0, -1)", INDEX, f -> f.condition(0, -1));
        dueThrownAndUnchanged("line(-1, 0)", INDEX, f -> f.line(-1, 0));
        dueThrownAndUnchanged("needs(0, 60)", INDEX, f -> f.needs(0, 60));
        dueThrownAndUnchanged("limit(-1, 0)", ARGUMENT, f -> f.limit(-1, 0));
        dueThrownAndUnchanged("limit(0, 2)", ARGUMENT, f -> f.limit(0, 2));
        dueThrownAndUnchanged("check(51)", ARGUMENT, f -> f.check(51));
        dueThrownAndUnchanged("check(-1)", ARGUMENT, f -> f.check(-1));
        dueThrownAndUnchanged("differs(1, 0)", INDEX, f -> f.differs(1, 0));
        dueThrownAndUnchanged("differs(0, -1)", ARGUMENT, f -> f.differs(0, -1));
        PartFormulas full = ran("Aw=a");
        for (int v = 0; v < 4; v++) {
            full.set(0, v, 1);
            full.version();
        }
        full.set(0, 9, 1);
        due("a fifth version", STATE, full::version);
        due("another one", STATE, full::version);
        due("there is no version 4", INDEX, () -> full.differs(4, 0));
        full.set(0, 3, 1);
        due("the last one was not written over", NONE, () -> full.differs(3, 0));
        full.set(0, 0, 1);
        due("nor the first", NONE, () -> full.differs(0, 0));
    }

    private static void firstNamedIsThrown() {
        sentence("of several exceptions the one named first is thrown");
        Use[] stateFirst = {f -> f.write(-1), f -> f.state(10, 6), f -> f.ring(-1), f -> f.condition(10, 6),
            f -> f.line(10, 6), f -> f.needs(60, 60), f -> f.limit(-1, 2), f -> f.check(51), f -> f.differs(0, -1)};
        for (int i = 0; i < stateFirst.length; i++) {
            Use use = stateFirst[i];
            due("nothing was read, call " + i, STATE, () -> use.of(new PartFormulas()));
        }
        due("set: option, then fraction", INDEX, () -> new PartFormulas().set(8, LARGEST + 1, 0));
        due("set: option -1, then fraction", INDEX, () -> new PartFormulas().set(-1, 1, 0));
        due("size: part, then which, then state", INDEX, () -> new PartFormulas().size(10, 0, 2));
        due("size: measure, then which, then state", INDEX, () -> new PartFormulas().size(0, -1, 2));
        due("size: which, then state", ARGUMENT, () -> new PartFormulas().size(0, 0, 2));
        due("size: which, then no value", ARGUMENT, () -> ran("Aw=Aw").size(0, 0, -1));
        due("differs: version, then k", INDEX, () -> ran("Aw=1").differs(0, -1));
        due("differs: worked out, then version", STATE, () -> with("Aw=1").differs(0, -1));
        due("limit: worked out, then k", STATE, () -> with("Aw=1").limit(-1, 2));
        due("state: worked out, then part", STATE, () -> with("Aw=1").state(10, 0));
        due("condition: worked out, then part", STATE, () -> with("Aw=1").condition(10, 0));
        due("check: worked out, then steps", STATE, () -> with("Aw=1").check(51));
    }

    private static void noSuchIndex() {
        sentence("IndexOutOfBoundsException: there is no such option, part, measure, version.");
        for (int wrong : new int[] {-1, 10, 16, 60, 65536, Integer.MAX_VALUE, Integer.MIN_VALUE, 1 << 30}) {
            due("state part " + wrong, INDEX, () -> ran("Aw=1").state(wrong, 0));
            due("size part " + wrong, INDEX, () -> ran("Aw=1").size(wrong, 0, 0));
            due("condition part " + wrong, INDEX, () -> ran("Aw=1").condition(wrong, 0));
            due("line part " + wrong, INDEX, () -> ran("Aw=1").line(wrong, 0));
        }
        for (int wrong : new int[] {-1, 6, 8, 60, Integer.MAX_VALUE, Integer.MIN_VALUE}) {
            due("state measure " + wrong, INDEX, () -> ran("Aw=1").state(0, wrong));
            due("size measure " + wrong, INDEX, () -> ran("Aw=1").size(0, wrong, 0));
            due("condition measure " + wrong, INDEX, () -> ran("Aw=1").condition(0, wrong));
            due("line measure " + wrong, INDEX, () -> ran("Aw=1").line(0, wrong));
            due("a wrong measure of the last part", INDEX, () -> ran("Aw=1").state(9, wrong));
            due("a wrong measure of part 1", INDEX, () -> ran("Aw=1").line(1, wrong));
        }
        due("the last part and measure", 1, () -> ran("Jz=1").state(9, 5));
        due("the first ones", 1, () -> ran("Aw=1").state(0, 0));
    }

    private static void nothingReadOrWorkedOut() {
        sentence("IllegalStateException: nothing was read, or nothing was worked out since");
        Use[] needText = {PartFormulas::run, f -> f.write(0), f -> f.ring(0), f -> f.line(0, 0), f -> f.needs(0, 0)};
        Use[] needRun = {f -> f.state(0, 0), f -> f.size(0, 0, 0), f -> f.condition(0, 0), f -> f.limit(0, 0),
            f -> f.check(0), PartFormulas::version, f -> f.differs(0, 0), PartFormulas::same};
        for (int i = 0; i < needRun.length; i++) {
            Use use = needRun[i];
            due("nothing was read, call " + i, STATE, () -> use.of(new PartFormulas()));
            due("nothing was worked out, call " + i, STATE, () -> use.of(with("Aw=1")));
            due("nothing was worked out since, call " + i, STATE, () -> {
                PartFormulas f = ran("Aw=1");
                f.version();
                read(f, "Aw=2");
                return use.of(f);
            });
            due("a text that fails leaves what was worked out, call " + i, false, () -> {
                PartFormulas f = ran("Aw=1");
                f.version();
                read(f, "Aw=");
                return STATE.equals(use.of(f));
            });
        }
        for (int i = 0; i < needText.length; i++) {
            Use use = needText[i];
            due("nothing was read, call " + i, STATE, () -> use.of(new PartFormulas()));
            due("only collected, call " + i, STATE, () -> {
                PartFormulas f = new PartFormulas();
                type(f, "Aw=1");
                return use.of(f);
            });
            due("a text that failed, call " + i, STATE, () -> {
                PartFormulas f = new PartFormulas();
                read(f, "Aw=1;");
                return use.of(f);
            });
            due("what was read is enough, call " + i, false, () -> STATE.equals(use.of(with("Aw=1"))));
        }
    }

    private static void noRoomOrNoValue() {
        sentence("there is no room; there is no VALUE.");
        PartFormulas f = ran("Aw=1;Bw=Bw");
        for (int v = 0; v < 4; v++) {
            f.version();
        }
        due("there is no room", STATE, f::version);
        due("there is no VALUE: a ring", STATE, () -> f.size(1, 0, 0));
        due("there is no VALUE: not defined", STATE, () -> f.size(2, 0, 1));
        due("there is one", 1, () -> f.size(0, 0, 1));
    }

    private static void anotherNumberIsNotAsSaid() {
        sentence("IllegalArgumentException: another number is not as said.");
        Use[] wrong = {f -> f.write(-1), f -> f.set(0, 1, 0), f -> f.set(0, LARGEST + 1, 1), f -> f.size(0, 0, 2),
            f -> f.ring(-1), f -> f.limit(-1, 0), f -> f.limit(0, 2), f -> f.check(51), f -> f.differs(0, -1)};
        for (int i = 0; i < wrong.length; i++) {
            Use use = wrong[i];
            due("another number, call " + i, ARGUMENT, () -> {
                PartFormulas f = ran("Aw=1;!Aw=1");
                f.version();
                return use.of(f);
            });
        }
        due("a character is never refused so", false, () -> new PartFormulas().unit(-1));
    }

    // ---- Promises

    private static void newObject() {
        sentence("All OPTIONS are 0; nothing was collected or read, so no cell is defined.");
        for (int option = 0; option < 8; option++) {
            int o = option;
            due("option " + o + " is 0", false, () -> new PartFormulas().set(o, 0, 5));
            due("option " + o + " is not 1", true, () -> new PartFormulas().set(o, 1, 1));
        }
        due("nothing was collected", -1, () -> new PartFormulas().read());
        due("nothing was read", STATE, () -> new PartFormulas().line(0, 0));
        due("nothing was reckoned", 0, () -> new PartFormulas().reckoned());
        PartFormulas one = ran("Aw=a");
        one.set(0, 7, 1);
        due("another object is new", STATE, () -> new PartFormulas().run());
        due("with options of its own", false, () -> new PartFormulas().set(0, 0, 1));
    }

    private static void unitTakes33To126() {
        sentence("A character more behind the text: whether there was room, and it is 33 .. 126.");
        for (int u = -300; u < 700; u++) {
            int c = u;
            due("unit(" + c + ")", c >= 33 && c <= 126, () -> new PartFormulas().unit(c));
        }
        for (int c : new int[] {65536 + 65, 65536 + 33, -65536 + 65, Integer.MIN_VALUE, Integer.MAX_VALUE, 1 << 16}) {
            due("unit(" + c + ")", false, () -> new PartFormulas().unit(c));
        }
        PartFormulas f = new PartFormulas();
        for (int c : new int[] {'A', 32, 'w', 127, '=', 0, '7', -1, 10}) {
            f.unit(c);
        }
        due("what was refused is not in the text", 1, f::read);
        due("it is", "Aw=7", () -> printed(f));
    }

    private static void fullTextHasNoRoom() {
        sentence("whether there was room");
        PartFormulas f = new PartFormulas();
        String text = "Aw=" + repeat("1+", 198) + "1";
        type(f, text.substring(0, 399));
        due("399 characters leave room", true, () -> f.unit('2'));
        for (int c : new int[] {'3', 33, 126, 32, 127}) {
            due("a full text takes no " + c, false, () -> f.unit(c));
        }
        due("it is read as it was", 1, f::read);
        due("with its last character", (int) '2', () -> f.write(399));
        due("read makes room", true, () -> f.unit('!'));
        due("for a new text", -2, f::read);
        PartFormulas g = new PartFormulas();
        type(g, repeat("x", 400));
        due("full of what can't be read", false, () -> g.unit('A'));
        due("it fails", -1, g::read);
        due("a text that fails makes room, too", true, () -> g.unit('A'));
    }

    private static void readTellsTheFirstWrongPlace() {
        sentence("how many statements; or -1 less the place of the first character that can't be there, "
                + "or of its end, if more must come");
        String text = "Aw=a*2.5-(Bh/-3);!Aw<20;Cd=a<1?Aw:b=0?1:2";
        List<Integer> wholeSoFar = List.of(4, 6, 8, 16, 22, 23, 28, 35);
        for (int end = 0; end < text.length(); end++) {
            String before = text.substring(0, end);
            if (wholeSoFar.contains(end)) {
                due("whole so far: " + before, true, () -> read(new PartFormulas(), before) > 0);
            } else {
                dueRead(before, -1 - end);
            }
            for (char c : "#$%&'\",@[\\]^_`{|}~KZiv".toCharArray()) {
                dueRefused(before, c + text.substring(end));
            }
        }
        dueRead(text, 3);
        dueRefused(text, ")");
        dueRefused("", "w=1;Kw=2");
    }

    private static void readEmptiesTheText() {
        sentence("The text (which is empty then) is read");
        PartFormulas f = new PartFormulas();
        due("a good text", 1, () -> read(f, "Aw=1"));
        due("empty then", -1, f::read);
        due("a bad text", -4, () -> read(f, "Aw="));
        due("empty then, too", -1, f::read);
        due("nothing is left of it", -1, () -> read(f, "1"));
        due("nor of that", 1, () -> read(f, "Bw=2"));
        due("the last one counts", "Bw=2", () -> printed(f));
    }

    private static void whatWasReadStays() {
        sentence("(what was read before stays)");
        PartFormulas f = scene();
        due("collected and good", 1, f::read);
        PartFormulas g = ran("Aw=a;Bw=Bw;!Aw<1");
        g.set(0, 2, 1);
        g.version();
        for (String bad : new String[] {"", "A", "Aw=1;Aw=2", "Cw=1;Bw=Cw;!1<", "!", "x", definitions(24) + ";"}) {
            due("fails", true, () -> read(g, bad) < 0);
            due("printed", "Aw=a;Bw=Bw;!Aw<1", () -> printed(g));
            due("line", 0, () -> g.line(0, 0));
            due("no line of the bad text", NONE, () -> g.line(2, 0));
            due("ring", 6, () -> g.ring(0));
            due("needs", false, () -> g.needs(6, 12));
            due("worked out", "2/1", () -> cell(g, "Aw"));
            due("limit", 2, () -> g.limit(0, 0));
            due("same", true, g::same);
        }
        due("an option still works", true, () -> g.set(0, 0, 1));
        due("on what stayed", "0/1", () -> cell(g, "Aw"));
        due("run still works", 2, g::run);
    }

    private static void nothingOfOlderTextsIsLeft() {
        sentence("The text (which is empty then) is read");
        PartFormulas f = new PartFormulas();
        String[] texts = {"Aw=(Bw)*001.50<1?Aw:2>3?4:a;Bw=a;!Bw<0", "Bw=((1", "Aw=7", "Aw=----", "Bw=Aw+((a))-(1<2)",
            "Bw=(Aw+(2));!((1))<2;Aw=-((((((((", "Aw=3;Bw=(1+-(-(2)))*(Aw)", "Bw=5;Aw=Bw"};
        int[] answers = {3, -7, 1, -8, -15, -33, 2, 2};
        String[] prints = {"Aw=Bw*1.5<1?Aw:2>3?4:a;Bw=a;!Bw<0", "", "Aw=7", "", "", "", "Aw=3;Bw=(1+--2)*Aw", "Bw=5;Aw=Bw"};
        int[] rings = {0, 0, NONE, 0, 0, 0, NONE, NONE};
        String[] values = {"state 4", "", "7/1", "", "", "", "3/1", "5/1"};
        long[] counts = {1, 0, 1, 0, 0, 0, 2, 2};
        long[] hanging = {1, 0, 0, 0, 0, 0, 0, 0};
        for (int i = 0; i < texts.length; i++) {
            int at = i;
            due("text " + i, answers[i], () -> read(f, texts[at]));
            if (answers[i] > 0) {
                long before = f.reckoned();
                due("text " + i + " printed", prints[i], () -> printed(f));
                due("text " + i + ": ring", rings[i], () -> f.ring(0));
                f.run();
                due("text " + i + ": Aw", values[i], () -> cell(f, "Aw"));
                due("text " + i + ": reckoned", before + counts[i], f::reckoned);
                f.set(0, i + 1, 1);
                due("text " + i + ": hanging on a", before + counts[i] + hanging[i], f::reckoned);
                due("text " + i + ": needs", i == 0 || i == 7, () -> f.needs(0, 6));
            }
        }
    }

    private static void writeEnds() {
        sentence("Character i of what was read, PRINTED; NONE behind the end.");
        PartFormulas f = with("Aw=(07)");
        String want = "Aw=7";
        for (int i = 0; i < 4; i++) {
            int at = i;
            due("write(" + at + ")", (int) want.charAt(at), () -> f.write(at));
        }
        for (int i : new int[] {4, 5, 6, 7, 399, 400, 401, 65536, Integer.MAX_VALUE}) {
            due("write(" + i + ")", NONE, () -> f.write(i));
        }
        read(f, "Aw=1+2;!1<2");
        read(f, "Bw=1");
        due("nothing of a longer text before", NONE, () -> f.write(4));
    }

    private static void writeRefuses() {
        sentence("IllegalStateException; IllegalArgumentException: i is below 0.");
        PartFormulas f = with("Aw=(07)");
        due("write(-1)", ARGUMENT, () -> f.write(-1));
        due("write(MIN)", ARGUMENT, () -> f.write(Integer.MIN_VALUE));
        due("without a text", STATE, () -> new PartFormulas().write(0));
    }

    private static void optionBecomesTheFraction() {
        sentence("An option becomes above / below");
        long[][] rows = {{0, 1, 0, 1}, {0, LARGEST, 0, 1}, {6, 4, 3, 2}, {-6, 4, -3, 2}, {LARGEST, LARGEST, 1, 1},
            {-LARGEST, LARGEST, -1, 1}, {LARGEST, 1, LARGEST, 1}, {-LARGEST, 1, -LARGEST, 1}, {1, LARGEST, 1, LARGEST},
            {LARGEST - 1, LARGEST, LARGEST - 1, LARGEST}, {LARGEST, LARGEST - 1, LARGEST, LARGEST - 1}};
        for (long[] row : rows) {
            PartFormulas f = with("Aw=a;Bw=-h");
            f.set(0, row[0], row[1]);
            f.run();
            f.set(7, row[0], row[1]);
            due("before run " + row[0] + "/" + row[1], row[2] + "/" + row[3], () -> cell(f, "Aw"));
            due("behind run " + row[0] + "/" + row[1], -row[2] + "/" + row[3], () -> cell(f, "Bw"));
        }
    }

    private static void setRefusesNoSuchOption() {
        sentence("An option becomes above / below; if all was worked out, and it was another fraction, "
                + "what hangs on it is worked out again: whether it was another one. IndexOutOfBoundsException");
        for (int option : new int[] {-1, 8, 9, 97, 65536, Integer.MAX_VALUE, Integer.MIN_VALUE}) {
            due("set(" + option + ", 1, 1)", INDEX, () -> new PartFormulas().set(option, 1, 1));
            due("set(" + option + ", 1, 0)", INDEX, () -> new PartFormulas().set(option, 1, 0));
            due("behind run", INDEX, () -> ran("Aw=a").set(option, 1, 1));
        }
    }

    private static void setBounds() {
        sentence("IllegalArgumentException: below is below 1, or above or below is beyond 1000000000 in size, "
                + "as they are told.");
        long[][] bad = {{1, 0}, {1, -1}, {0, 0}, {1, -LARGEST}, {1, LARGEST + 1}, {LARGEST + 1, 1}, {-LARGEST - 1, 1},
            {2 * LARGEST, 2 * LARGEST}, {2 * LARGEST, 2}, {0, LARGEST + 1}, {Long.MAX_VALUE, 1}, {Long.MIN_VALUE, 1},
            {1, Long.MAX_VALUE}, {1, Long.MIN_VALUE}, {1L << 32, 1}, {1, 1L << 32}, {(1L << 32) + 1, 1}, {1, (1L << 32) + 1}};
        for (long[] row : bad) {
            due("set(0, " + row[0] + ", " + row[1] + ")", ARGUMENT, () -> new PartFormulas().set(0, row[0], row[1]));
        }
        long[][] good = {{LARGEST, 1}, {-LARGEST, 1}, {1, LARGEST}, {LARGEST, LARGEST}, {-LARGEST, LARGEST}, {1, 1}};
        for (long[] row : good) {
            due("set(7, " + row[0] + ", " + row[1] + ")", true, () -> new PartFormulas().set(7, row[0], row[1]));
        }
    }

    private static void setTellsWhetherAnother() {
        sentence("if all was worked out, and it was another fraction, what hangs on it is worked out again: "
                + "whether it was another one.");
        PartFormulas f = with("Aw=a;Bw=b;Cw=Aw+Bw");
        due("before run", true, () -> f.set(0, 1, 2));
        due("the same in other words", false, () -> f.set(0, 500000000, LARGEST));
        due("nothing was worked out by it", 0, f::reckoned);
        due("still not", STATE, () -> f.state(0, 0));
        f.run();
        due("it counts in run", "1/2", () -> cell(f, "Cw"));
        due("the same fraction", false, () -> f.set(0, 3, 6));
        due("works nothing out", 3, f::reckoned);
        due("the opposite", true, () -> f.set(0, -1, 2));
        due("works out what hangs on it", "-1/2", () -> cell(f, "Cw"));
        due("just that", 5, f::reckoned);
        due("an option of no cell", true, () -> f.set(7, 9, 1));
        due("works out nothing", 5, f::reckoned);
        read(f, "Aw=a");
        due("after another text was read", true, () -> f.set(0, 4, 1));
        due("nothing is worked out", STATE, () -> f.state(0, 0));
        f.run();
        due("options stay", "4/1", () -> cell(f, "Aw"));
    }

    private static void runTellsTheFirst() {
        sentence("All is WORKED OUT: 0, or 1 and the first statement whose cell is defined and has no VALUE.");
        due("all have values", 0, () -> with("Aw=1;Bw=Aw").run());
        due("limits are no cells", 0, () -> with("!1>2;!Aw=1;!1/0=1").run());
        due("statement 0", 1, () -> with("Aw=1/0;Bw=1/0").run());
        due("the first, not the first reckoned", 1, () -> with("Aw=Bw;Bw=1/0").run());
        due("behind a broken limit", 3, () -> with("!1>2;Aw=1;Bw=99999*99999").run());
        due("a ring", 2, () -> with("Aw=1;Bw=Bw;Cw=1/0").run());
        due("missed", 2, () -> with("Aw=1;Bw=Jz").run());
        due("the last of 24", 24, () -> with(definitions(23) + ";Jz=Iz").run());
        due("none of 24", 0, () -> with(definitions(24)).run());
        due("without a text", STATE, () -> new PartFormulas().run());
        PartFormulas f = with("Aw=1/a");
        due("a is 0", 1, f::run);
        f.set(0, 1, 1);
        due("a is 1", 0, f::run);
    }

    private static void runRefuses() {
        sentence("0, or 1 and the first statement whose cell is defined and has no VALUE. IllegalStateException.");
        due("nothing was collected", STATE, () -> new PartFormulas().run());
        PartFormulas f = new PartFormulas();
        type(f, "Aw=1");
        due("only collected", STATE, f::run);
        due("what was collected is still there", 1, f::read);
        due("then it can be worked out", 0, f::run);
        due("a text that fails", -5, () -> read(f, "Aw=1?"));
        due("leaves the first one to be worked out again", 0, f::run);
        due("both times count", 2L, f::reckoned);
    }

    private static void stateTells0To5() {
        sentence("What a cell is: 0 .. 5. IllegalStateException (first); IndexOutOfBoundsException.");
        PartFormulas f = ran("Jw=1;Jh=1/0;Jd=99999*99999;Jx=Jx;Jy=Jx");
        int[] states = {1, 2, 3, 4, 5, 0};
        for (int measure = 0; measure < 6; measure++) {
            int m = measure;
            due("state(9, " + m + ")", states[m], () -> f.state(9, m));
            due("state(0, " + m + ")", 0, () -> f.state(0, m));
        }
        due("state(10, 0)", INDEX, () -> f.state(10, 0));
        due("state(9, 6)", INDEX, () -> f.state(9, 6));
        due("state(-1, 0)", INDEX, () -> f.state(-1, 0));
        due("state(0, -1)", INDEX, () -> f.state(0, -1));
        due("nothing was worked out, first", STATE, () -> with("Aw=1").state(10, 0));
    }

    private static void sizeBounds() {
        sentence("A cell's numerator (which = 0) or denominator (1). IndexOutOfBoundsException; "
                + "IllegalArgumentException: another which; IllegalStateException.");
        PartFormulas f = ran("Jz=-6/4;Aw=1/0;Ah=99999*99999;Ad=Ad;Ax=Ay");
        due("numerator", -3, () -> f.size(9, 5, 0));
        due("denominator", 2, () -> f.size(9, 5, 1));
        for (int which : new int[] {-1, 2, 256, 65536, Integer.MAX_VALUE, Integer.MIN_VALUE}) {
            due("which " + which, ARGUMENT, () -> f.size(9, 5, which));
        }
        for (int measure = 0; measure < 5; measure++) {
            int m = measure;
            due("no value: " + m, STATE, () -> f.size(0, m, 0));
            due("no value, denominator: " + m, STATE, () -> f.size(0, m, 1));
        }
    }

    private static void ringBounds() {
        sentence("The k-th cell that is a RING, by their numbers (known when it is read); NONE if there are not so many.");
        PartFormulas f = with("Jz=Jz;Aw=Ah;Ah=Aw;Bw=Aw;Cw=1");
        int[] rings = {0, 1, 59, NONE, NONE};
        for (int k = 0; k < rings.length; k++) {
            int at = k;
            due("ring(" + k + ")", rings[k], () -> f.ring(at));
        }
        due("ring(MAX)", NONE, () -> f.ring(Integer.MAX_VALUE));
        due("no ring at all", NONE, () -> with("Aw=1").ring(0));
    }

    private static void ringRefuses() {
        sentence("IllegalStateException: nothing was read; IllegalArgumentException: k is below 0.");
        PartFormulas f = with("Aw=Aw");
        due("ring(-1)", ARGUMENT, () -> f.ring(-1));
        due("ring(MIN)", ARGUMENT, () -> f.ring(Integer.MIN_VALUE));
        due("nothing was read", STATE, () -> new PartFormulas().ring(0));
    }

    private static void conditionBounds() {
        sentence("Which of its conditions chose a cell's VALUE (0 for the first one; how many there are, if none held); "
                + "NONE if it has no VALUE.");
        for (int count = 0; count <= 4; count++) {
            for (int holding = 0; holding <= count; holding++) {
                StringBuilder b = new StringBuilder("Aw=");
                for (int i = 0; i < count; i++) {
                    b.append(i < holding ? "1>2?3:" : "1<2?3:");
                }
                int want = holding;
                due(b + "4", want, () -> ran(b + "4").condition(0, 0));
            }
        }
        for (String text : new String[] {"Aw=Aw", "Aw=1/0", "Aw=Bw", "Aw=1<2?1/0:2", "Aw=1/0<2?1:2", "Aw=1>2?3:Bw", "Bw=1"}) {
            due(text, NONE, () -> ran(text).condition(0, 0));
        }
    }

    private static void conditionRefuses() {
        sentence("NONE if it has no VALUE. IllegalStateException (first); IndexOutOfBoundsException.");
        PartFormulas f = ran("Jz=1");
        due("condition(9, 5)", 0, () -> f.condition(9, 5));
        due("condition(0, 0)", NONE, () -> f.condition(0, 0));
        due("condition(10, 0)", INDEX, () -> f.condition(10, 0));
        due("condition(9, 6)", INDEX, () -> f.condition(9, 6));
        due("condition(-1, 0)", INDEX, () -> f.condition(-1, 0));
        due("condition(0, -1)", INDEX, () -> f.condition(0, -1));
        due("nothing was worked out, first", STATE, () -> with("Aw=1").condition(10, 0));
        due("nothing was read, first", STATE, () -> new PartFormulas().condition(0, 6));
    }

    private static void lineBounds() {
        sentence("The statement that defines a cell; NONE without.");
        PartFormulas f = with("!1<2;Jz=Bw;Aw=1");
        for (int cell = 0; cell < 60; cell++) {
            int c = cell;
            due("line of " + name(c), c == 0 ? 2 : c == 59 ? 1 : NONE, () -> f.line(c / 6, c % 6));
        }
        due("the 24th", 23, () -> with(definitions(24)).line(3, 5));
    }

    private static void lineRefuses() {
        sentence("IllegalStateException (nothing was read; first); IndexOutOfBoundsException.");
        due("nothing was read, first", STATE, () -> new PartFormulas().line(10, 6));
        due("part 10", INDEX, () -> with("Aw=1").line(10, 0));
        due("measure 6", INDEX, () -> with("Aw=1").line(0, 6));
        due("nothing was read", STATE, () -> new PartFormulas().line(0, 0));
        due("worked out is not asked for", 0, () -> with("Aw=1").line(0, 0));
    }

    private static void needsBounds() {
        sentence("Whether a cell NEEDS another one, at once or by others.");
        PartFormulas f = with(chain());
        due("the first needs the last", true, () -> f.needs(0, 23));
        due("the last needs none", false, () -> f.needs(23, 0));
        due("itself", false, () -> f.needs(0, 0));
        due("what is not defined needs none", false, () -> f.needs(59, 0));
        due("nor is it needed", false, () -> f.needs(0, 59));
        due("what is not defined is needed if mentioned", true, () -> with("Aw=Jz").needs(0, 59));
        due("by a ring", true, () -> with("Aw=Bw;Bw=Cw+Bw;Cw=Jz").needs(0, 59));
        due("in a limit nobody needs", false, () -> with("Aw=1;!Aw=Bw").needs(0, 6));
    }

    private static void needsRefuses() {
        sentence("IllegalStateException (nothing was read; first); "
                + "IndexOutOfBoundsException: there is no such cell (0 .. 59).");
        PartFormulas f = with("Aw=Jz");
        due("cell 59", false, () -> f.needs(59, 0));
        due("other 59", true, () -> f.needs(0, 59));
        due("nothing was read, first", STATE, () -> new PartFormulas().needs(60, -1));
        for (int wrong : new int[] {-1, 60, 64, 65536, Integer.MAX_VALUE, Integer.MIN_VALUE}) {
            due("needs(" + wrong + ", 0)", INDEX, () -> f.needs(wrong, 0));
            due("needs(0, " + wrong + ")", INDEX, () -> f.needs(0, wrong));
        }
    }

    private static void limitBounds() {
        sentence("The k-th BROKEN limit: its statement (what = 0), or why: 1 it does not hold, "
                + "2, 3, 5 as told for cells (1); NONE if there are not so many.");
        PartFormulas f = ran("!1<2;!2<1;Aw=1/0;!1/0<1;!1>2;!99999*99999=1;!Aw=1;!1=1");
        int[][] rows = {{1, 1}, {3, 2}, {4, 1}, {5, 3}, {6, 5}, {NONE, NONE}, {NONE, NONE}};
        for (int k = 0; k < rows.length; k++) {
            int at = k;
            due("limit(" + k + ", 0)", rows[k][0], () -> f.limit(at, 0));
            due("limit(" + k + ", 1)", rows[k][1], () -> f.limit(at, 1));
        }
        due("limit(MAX, 0)", NONE, () -> f.limit(Integer.MAX_VALUE, 0));
        due("limit(MAX, 1)", NONE, () -> f.limit(Integer.MAX_VALUE, 1));
        due("no limits", NONE, () -> ran("Aw=1/0").limit(0, 0));
        due("the 24th of 24", 23, () -> ran(joined("!2<1", 24)).limit(23, 0));
        due("no 25th", NONE, () -> ran(joined("!2<1", 24)).limit(24, 0));
    }

    private static void limitRefuses() {
        sentence("IllegalStateException; IllegalArgumentException: k is below 0, or another what.");
        PartFormulas f = ran("!2<1");
        due("nothing was worked out, first", STATE, () -> with("!2<1").limit(-1, 2));
        due("limit(-1, 0)", ARGUMENT, () -> f.limit(-1, 0));
        due("limit(MIN, 1)", ARGUMENT, () -> f.limit(Integer.MIN_VALUE, 1));
        for (int what : new int[] {-1, 2, 256, Integer.MAX_VALUE, Integer.MIN_VALUE}) {
            due("what " + what, ARGUMENT, () -> f.limit(0, what));
            due("what behind the end " + what, ARGUMENT, () -> f.limit(99, what));
        }
    }

    private static PartFormulas ranWith(String text, long above, long below) {
        PartFormulas f = ran(text);
        f.set(0, above, below);
        return f;
    }

    private static void checkSteps() {
        sentence("Option 0 takes its fraction and 0, 1, .., up to so many as are told (that one, too), in turn, "
                + "and is as before in the end: the first of these at which a limit is BROKEN; NONE if none is.");
        for (int steps = 0; steps <= 50; steps++) {
            int s = steps;
            due("broken at the last step " + s, s, () -> ran("Aw=a;!Aw<" + s).check(s));
            due("broken behind it " + s, NONE, () -> ran("Aw=a;!Aw<" + (s + 1)).check(s));
        }
        due("broken at once", 0, () -> ran("!1>2").check(50));
        due("the first, though it is not broken then", 3, () -> ran("!(a-3)*(a-3)>0").check(50));
        due("the first of two limits", 2, () -> ran("!a<7;!a<2").check(50));
        due("a cell that can't be reckoned", 4, () -> ran("Aw=1/(a-4);!Aw<5").check(50));
        due("no limit", NONE, () -> ran("Aw=1/a").check(50));
        due("a limit on a cell without option 0", NONE, () -> ran("Aw=5;Bw=Aw+b;!Bw=5").check(50));
        due("a limit without option 0", NONE, () -> ran("!b<1").check(50));
        due("from a fraction", 5, () -> ranWith("!a<5", 1, 3).check(50));
        due("from below 0", 5, () -> ranWith("!a<0", -9, 2).check(50));
        PartFormulas f = ranWith("Aw=a*2;Bw=Aw>9?1/0:Aw;!Bw<3;!a<4", 1, 2);
        f.version();
        long before = f.reckoned();
        due("check", 1, () -> f.check(50));
        due("as before: cells", NONE, () -> f.differs(0, 0));
        due("as before: limits", NONE, () -> f.limit(0, 0));
        due("as before: option", false, () -> f.set(0, 1, 2));
        due("as before: reckoned", before, f::reckoned);
        due("as before: same", true, f::same);
        due("again", 1, () -> f.check(1));
        due("and not so far", NONE, () -> f.check(0));
    }

    private static void checkRefuses() {
        sentence("IllegalStateException; IllegalArgumentException: steps are not 0 .. 50.");
        PartFormulas f = ran("!a<50");
        due("check(0)", NONE, () -> f.check(0));
        due("check(50)", 50, () -> f.check(50));
        for (int steps : new int[] {-1, 51, 256, 65536, Integer.MAX_VALUE, Integer.MIN_VALUE}) {
            due("check(" + steps + ")", ARGUMENT, () -> f.check(steps));
        }
        due("nothing was worked out", STATE, () -> with("!1<2").check(0));
    }

    private static void checkEndsAtBigNumerators() {
        sentence("(A fraction with a numerator above 1000000000 ends it.)");
        String atMost = "!a<" + MOST;
        due("the largest numerator is taken", 3, () -> ranWith(atMost, LARGEST - 3, 1).check(50));
        due("not one step before", NONE, () -> ranWith(atMost, LARGEST - 3, 1).check(2));
        due("what would be broken behind the largest is not met", NONE,
                () -> ranWith("!a/10000/10000/10<2", LARGEST - 3, 1).check(50));
        due("a denominator that makes the next one too large", NONE, () -> ranWith("!a<1", LARGEST - 1, LARGEST).check(50));
        due("one that just fits", 1, () -> ranWith("!a<1", 1, LARGEST - 1).check(50));
        due("one that does not", NONE, () -> ranWith("!a<1", 2, LARGEST - 1).check(50));
        due("broken before it ends", 0, () -> ranWith("!a>1", LARGEST - 1, LARGEST).check(50));
        due("sizes below 0 do not end it", 2, () -> ranWith("!a<0", -LARGEST, LARGEST - 1).check(50));
        due("the least numerator", 0, () -> ranWith("!a>-" + MOST, -LARGEST, 1).check(50));
        PartFormulas f = ranWith("Aw=a;!Aw<" + MOST + "-50", LARGEST - 99, 1);
        due("49 steps", 49, () -> f.check(49));
        due("the option is as before when it has ended", false, () -> f.set(0, LARGEST - 99, 1));
        PartFormulas g = ranWith("Aw=a", LARGEST, 1);
        due("ended at once behind step 0", NONE, () -> g.check(50));
        due("the option is as before", false, () -> g.set(0, LARGEST, 1));
        due("and its cell", LARGEST + "/1", () -> cell(g, "Aw"));
    }

    private static void versionsAreFour() {
        sentence("All cells as they are now are a VERSION: its number (0, 1, ..). "
                + "IllegalStateException: nothing was worked out, or there are 4.");
        PartFormulas f = ran("Aw=a;Bw=1/a;Cw=Cw");
        for (int v = 0; v < 4; v++) {
            int number = v;
            f.set(0, v, 1);
            due("version " + v, number, f::version);
        }
        due("a fifth", STATE, f::version);
        for (int v = 0; v < 4; v++) {
            int number = v;
            f.set(0, v, 1);
            for (int w = 0; w < 4; w++) {
                int other = w;
                due("as it was then " + v + " " + w, v == w ? NONE : 0, () -> f.differs(other, 0));
            }
            due("it is as in " + v, NONE, () -> f.differs(number, 0));
        }
        due("nothing was worked out", STATE, () -> with("Aw=1").version());
        due("nothing was read", STATE, () -> new PartFormulas().version());
        due("a bad text takes no version away", -1, f::read);
        due("still a fifth", STATE, f::version);
        due("read another text", 1, () -> read(f, "Aw=3"));
        due("versions stay, but nothing is worked out", STATE, () -> f.differs(3, 0));
        f.run();
        due("no room with another text", STATE, f::version);
        due("versions are of cells, not of texts: Bw", 6, () -> f.differs(3, 0));
        due("and Cw", 12, () -> f.differs(3, 1));
        due("and no more", NONE, () -> f.differs(3, 2));
    }

    private static void differsBounds() {
        sentence("The k-th cell, by their numbers, that is not as in a version (what it is, or its VALUE); "
                + "NONE if there are not so many.");
        PartFormulas f = ran("Aw=a;Ah=1/(a+1);Ad=1/a;Jz=-a;Bw=b;Cw=Cw;Dw=a<1?5:5");
        f.version();
        due("none at first", NONE, () -> f.differs(0, 0));
        f.set(0, 1, 1);
        int[] cells = {0, 1, 2, 59, NONE, NONE};
        for (int k = 0; k < cells.length; k++) {
            int at = k;
            due("differs(0, " + k + ")", cells[k], () -> f.differs(0, at));
        }
        due("differs(0, MAX)", NONE, () -> f.differs(0, Integer.MAX_VALUE));
        due("run again", 6, f::run);
        due("as before run", 0, () -> f.differs(0, 0));
        f.set(0, 0, 1);
        due("back again", NONE, () -> f.differs(0, 0));
    }

    private static void differsRefuses() {
        sentence("IllegalStateException: nothing was worked out (first); IndexOutOfBoundsException; "
                + "IllegalArgumentException: k is below 0.");
        PartFormulas f = ran("Aw=1");
        f.version();
        for (int version : new int[] {-1, 1, 3, 4, Integer.MAX_VALUE, Integer.MIN_VALUE}) {
            due("version " + version, INDEX, () -> f.differs(version, 0));
        }
        due("differs(0, -1)", ARGUMENT, () -> f.differs(0, -1));
        due("differs(0, MIN)", ARGUMENT, () -> f.differs(0, Integer.MIN_VALUE));
        due("a new object", STATE, () -> new PartFormulas().differs(0, 0));
    }

    private static void sameAlways() {
        sentence("Whether all cells are as they would be worked out anew. IllegalStateException.");
        due("nothing was read", STATE, () -> new PartFormulas().same());
        due("nothing was worked out", STATE, () -> with("Aw=1").same());
        PartFormulas f = ran("Aw=Bw<c?Cw:a;Bw=b/a;Cw=Dw+b;Dw=Dw*a;Ew=Dw=1?a:b");
        long before = f.reckoned();
        due("same", true, f::same);
        due("it is not counted", before, f::reckoned);
        for (int i = 0; i < 9; i++) {
            f.set(i % 3, i - 4, 1 + i % 2);
            due("same after set " + i, true, f::same);
        }
        f.check(50);
        due("same after check", true, f::same);
        f.read();
        due("same after a text that fails", true, f::same);
    }

    private static void reckonedByRun() {
        sentence("How many cells were reckoned so far: by run() all that are defined and no RING");
        due("none defined", 0L, () -> ran("!Aw=1").reckoned());
        due("only rings", 0L, () -> ran("Aw=Bw;Bw=Aw").reckoned());
        due("behind a ring", 1L, () -> ran("Aw=Bw;Bw=Bw").reckoned());
        due("without a value", 3L, () -> ran("Aw=1/0;Bw=Aw;Cw=99999*99999").reckoned());
        due("24", 24L, () -> ran(definitions(24)).reckoned());
        PartFormulas f = with(definitions(24));
        due("not by read", 0L, f::reckoned);
        for (int i = 1; i <= 50; i++) {
            f.run();
            due("run " + i, 24L * i, f::reckoned);
        }
        f.same();
        f.check(50);
        f.version();
        due("by check none, nor by others", 1200L, f::reckoned);
        read(f, "Aw=");
        read(f, "Aw=1");
        due("not by reading", 1200L, f::reckoned);
        f.run();
        due("counted on", 1201L, f::reckoned);
    }

    private static void reckonedBySet() {
        sentence("by set() those of them that hang on the option (its letter is in their choice, "
                + "or a cell that hangs on it); by check() none.");
        Object[][] rows = {
            {"Aw=a", 1}, {"Aw=b", 0}, {"Aw=1<2?3:a", 1}, {"Aw=a<1?2:3", 1}, {"Aw=0*a", 1}, {"Aw=1/0+a", 1},
            {"!a<1", 0}, {"Aw=1;!a<Aw", 0}, {"Aw=Bw;Bw=a", 2}, {"Aw=Bw;Bw=Cw;Cw=a;Dw=b", 3}, {"Aw=1<2?3:Bw;Bw=a", 2},
            {"Aw=Aw+a", 0}, {"Aw=Aw+a;Bw=Aw", 1}, {"Aw=Bw;Bw=Aw*a;Cw=Bw;Dw=Cw", 2}, {"Aw=Bw;Bw=Aw*a;Cw=Aw", 1},
            {"Aw=Bw+a", 1}, {"Aw=Bw", 0}, {chain(), 24}};
        for (Object[] row : rows) {
            due("set after " + row[0], row[1], () -> {
                PartFormulas f = ran((String) row[0]);
                long before = f.reckoned();
                f.check(50);
                f.set(0, 1, 1);
                return f.reckoned() - before;
            });
        }
        for (int option = 0; option < 8; option++) {
            int o = option;
            PartFormulas f = ran("Aw=a;Bw=b;Cw=c;Dw=d;Ew=e;Fw=f;Gw=g;Hw=h");
            f.set(o, 5, 1);
            due("just the cell of option " + o, 9L, f::reckoned);
            due("has it", 5L, () -> f.size(o, 0, 0));
        }
        PartFormulas f = ran("Aw=a");
        f.set(0, 0, 9);
        due("the same fraction", 1L, f::reckoned);
        due("a wrong one", ARGUMENT, () -> f.set(0, 1, 0));
        due("reckons nothing", 1L, f::reckoned);
    }

    private static List<Runnable> terms() {
        return new ArrayList<>(List.of(
                BoundariesTest::usedFor512Calls,
                BoundariesTest::optionsAreAToH, BoundariesTest::cellsAreSixOfTenParts,
                BoundariesTest::textHasAtMost400Characters, BoundariesTest::statementsAre1To24,
                BoundariesTest::definitionOrLimit, BoundariesTest::atMostFourConditions, BoundariesTest::choiceIsWhole,
                BoundariesTest::conditionHasOneSign, BoundariesTest::expressionFromTheLeft,
                BoundariesTest::numbersHaveSoManyDigits, BoundariesTest::atMostEightInOneAnother,
                BoundariesTest::closedOnesCountNoMore, BoundariesTest::definedOnceAlone,
                BoundariesTest::definedInAnotherTextIsFree, BoundariesTest::fractionsAreShort,
                BoundariesTest::ringsNeedThemselves, BoundariesTest::reckonedWhenNeedsAre, BoundariesTest::divisionByZero,
                BoundariesTest::bigAbove1000000000, BoundariesTest::missedWithoutAValue,
                BoundariesTest::firstReasonFromTheLeft, BoundariesTest::undefinedIsZero,
                BoundariesTest::limitsHoldOrAreBroken, BoundariesTest::numbersPrinted, BoundariesTest::groupsPrinted,
                BoundariesTest::printedMeansTheSame, BoundariesTest::throwingChangesNothing,
                BoundariesTest::firstNamedIsThrown, BoundariesTest::noSuchIndex, BoundariesTest::nothingReadOrWorkedOut,
                BoundariesTest::noRoomOrNoValue, BoundariesTest::anotherNumberIsNotAsSaid));
    }

    private static List<Runnable> promises() {
        return List.of(
                BoundariesTest::newObject, BoundariesTest::unitTakes33To126, BoundariesTest::fullTextHasNoRoom,
                BoundariesTest::readTellsTheFirstWrongPlace, BoundariesTest::readEmptiesTheText,
                BoundariesTest::whatWasReadStays, BoundariesTest::nothingOfOlderTextsIsLeft, BoundariesTest::writeEnds,
                BoundariesTest::writeRefuses, BoundariesTest::optionBecomesTheFraction,
                BoundariesTest::setRefusesNoSuchOption, BoundariesTest::setBounds,
                BoundariesTest::setTellsWhetherAnother, BoundariesTest::runTellsTheFirst, BoundariesTest::runRefuses,
                BoundariesTest::stateTells0To5, BoundariesTest::sizeBounds,
                BoundariesTest::ringBounds,
                BoundariesTest::ringRefuses, BoundariesTest::conditionBounds,
                BoundariesTest::conditionRefuses, BoundariesTest::lineBounds,
                BoundariesTest::lineRefuses,
                BoundariesTest::needsBounds,
                BoundariesTest::needsRefuses, BoundariesTest::limitBounds,
                BoundariesTest::limitRefuses, BoundariesTest::checkSteps,
                BoundariesTest::checkRefuses,
                BoundariesTest::checkEndsAtBigNumerators, BoundariesTest::versionsAreFour, BoundariesTest::differsBounds,
                BoundariesTest::differsRefuses,
                BoundariesTest::sameAlways, BoundariesTest::reckonedByRun, BoundariesTest::reckonedBySet);
    }

    public static void main(String[] args) {
        List<Runnable> tests = terms();
        tests.addAll(promises());
        for (Runnable test : tests) {
            test.run();
        }
        finish("all " + tests.size() + " boundary tests hold");
    }
}
