import java.lang.reflect.Constructor;
import java.lang.reflect.Field;
import java.lang.reflect.Method;
import java.lang.reflect.Modifier;
import java.util.ArrayList;
import java.util.Arrays;
import java.util.List;
import java.util.TreeSet;

/** Each promise of the document: ordinary inputs, the edges that it names, and wrong inputs. */
public final class PromisesTest extends Asking {
    private static void face() {
        TreeSet<String> members = new TreeSet<>();
        for (Method m : PartFormulas.class.getDeclaredMethods()) {
            if (!Modifier.isPrivate(m.getModifiers())) {
                List<String> thrown = new ArrayList<>();
                for (Class<?> t : m.getExceptionTypes()) {
                    thrown.add(t.getSimpleName());
                }
                members.add(m.getReturnType() + " " + m.getName() + Arrays.toString(m.getParameterTypes()) + thrown);
            }
        }
        TreeSet<String> want = new TreeSet<>(List.of(
                "boolean unit[int][]", "int read[][]",
                "int write[int][" + STATE + ", " + ARGUMENT + "]",
                "boolean set[int, long, long][" + INDEX + ", " + ARGUMENT + "]",
                "int run[][" + STATE + "]",
                "int state[int, int][" + STATE + ", " + INDEX + "]",
                "long size[int, int, int][" + INDEX + ", " + ARGUMENT + ", " + STATE + "]",
                "int ring[int][" + STATE + ", " + ARGUMENT + "]",
                "int condition[int, int][" + STATE + ", " + INDEX + "]",
                "int line[int, int][" + STATE + ", " + INDEX + "]",
                "boolean needs[int, int][" + STATE + ", " + INDEX + "]",
                "int limit[int, int][" + STATE + ", " + ARGUMENT + "]",
                "int check[int][" + STATE + ", " + ARGUMENT + "]",
                "int version[][" + STATE + "]",
                "int differs[int, int][" + STATE + ", " + INDEX + ", " + ARGUMENT + "]",
                "boolean same[][" + STATE + "]", "long reckoned[][]"));
        due("the methods", want, () -> members);
        TreeSet<String> fields = new TreeSet<>();
        for (Field field : PartFormulas.class.getDeclaredFields()) {
            if (!Modifier.isPrivate(field.getModifiers())) {
                fields.add(field.getName());
            }
        }
        due("the constants", "[BIG, DIVISION, MISSED, NONE, RING, VALUE]", fields::toString);
        Constructor<?>[] made = PartFormulas.class.getDeclaredConstructors();
        due("constructors", 1, () -> made.length);
        due("the class", Modifier.PUBLIC | Modifier.FINAL, PartFormulas.class::getModifiers);
        due("the constants' numbers", "-1 1 2 3 4 5", () -> PartFormulas.NONE + " " + PartFormulas.VALUE + " "
                + PartFormulas.DIVISION + " " + PartFormulas.BIG + " " + PartFormulas.RING + " " + PartFormulas.MISSED);
    }

    /** The calls that README.md shows, with the answers that it tells. */
    private static void readmeExample() {
        PartFormulas f = new PartFormulas();
        type(f, "Aw=a*2+1;Ah=(Aw)/3.0;!Aw<20");
        due("README read", 3, f::read);
        due("README set", true, () -> f.set(0, 3, 2));
        due("README run", 0, f::run);
        due("README numerator", 4, () -> f.size(0, 1, 0));
        due("README denominator", 3, () -> f.size(0, 1, 1));
        due("README version", 0, f::version);
        due("README check", 8, () -> f.check(10));
        due("README set again", true, () -> f.set(0, 19, 2));
        due("README limit", 2, () -> f.limit(0, 0));
        due("README differs", 1, () -> f.differs(0, 1));
        due("README write", (int) 'A', () -> f.write(12));
        due("README printed", "Aw=a*2+1;Ah=Aw/3;!Aw<20", () -> printed(f));
    }

    private static void promise1NewObject() {
        PartFormulas f = new PartFormulas();
        due("reckoned of a new object", 0, f::reckoned);
        due("run of a new object", STATE, f::run);
        due("read of nothing", -1, f::read);
        due("run after reading nothing", STATE, f::run);
        for (int option = 0; option < 8; option++) {
            int o = option;
            due("set a new object's option to 0", false, () -> f.set(o, 0, 7));
        }
        dueCell("Aw=a+b+c+d+e+f+g+h", "Aw", "0/1");
    }

    private static void promise2Unit() {
        PartFormulas f = new PartFormulas();
        for (int u : new int[] {32, 127, 0, -1, 65 + 65536, 256 + 65, Integer.MIN_VALUE, Integer.MAX_VALUE}) {
            due("unit(" + u + ")", false, () -> f.unit(u));
        }
        due("unit(33)", true, () -> f.unit(33));
        due("unit(126)", true, () -> f.unit(126));
        due("read !~", -2, f::read);
        String longest = "Aw=" + repeat("1+", 197) + "123";
        due("the longest text", 400, longest::length);
        type(f, longest);
        due("the 401st character", false, () -> f.unit('4'));
        due("an unprintable 401st character", false, () -> f.unit(10));
        due("read 400 characters", 1, f::read);
        due("run", 0, f::run);
        due("their sum", "320/1", () -> cell(f, "Aw"));
        due("room again after read", true, () -> f.unit('A'));
        due("write of 400", (int) '3', () -> f.write(399));
        due("write behind 400", NONE, () -> f.write(400));
    }

    private static void promise3Read() {
        dueRead("Aw=1", 1);
        dueRead("!1<2", 1);
        dueRead("Jz=h;!Jz=0;Iy=-(a)", 3);
        String[][] bad = {
            {"", "0"}, {"A", "1"}, {"Aw", "2"}, {"Aw=", "3"}, {"w=1", "0"}, {"Kw=1", "0"}, {"aw=1", "0"}, {"Aa=1", "1"},
            {"AA=1", "1"}, {"Aw1", "2"}, {"Aw<1", "2"}, {"Aw==1", "3"}, {"Aw=1;", "5"}, {"Aw=1;;", "5"}, {";", "0"},
            {"Aw=i", "3"}, {"Aw=w", "3"}, {"Aw=A", "4"}, {"Aw=Aa", "4"}, {"Aw=1a", "4"}, {"Aw=aa", "4"}, {"Aw=1 ", "4"},
            {"Aw=123456", "8"}, {"Aw=.5", "3"}, {"Aw=1.", "5"}, {"Aw=1.a", "5"}, {"Aw=1..1", "5"}, {"Aw=1.2345", "8"},
            {"Aw=1.2.3", "6"}, {"Aw=+1", "3"}, {"Aw=1+", "5"}, {"Aw=1*+1", "5"}, {"Aw=1*", "5"}, {"Aw=-", "4"},
            {"Aw=(", "4"}, {"Aw=()", "4"}, {"Aw=(1", "5"}, {"Aw=(1;", "5"}, {"Aw=1)", "4"}, {"Aw=(1))", "6"},
            {"Aw=(1<2)", "5"}, {"Aw=1?2:3", "4"}, {"Aw=1<2", "6"}, {"Aw=1<2;", "6"}, {"Aw=1<2<3", "6"},
            {"Aw=1<2?", "7"}, {"Aw=1<2?3", "8"}, {"Aw=1<2?3;", "8"}, {"Aw=1<2?3<4", "8"}, {"Aw=1<2?3:", "9"},
            {"Aw=1<?", "5"}, {"Aw=1:2", "4"}, {"!", "1"}, {"!1", "2"}, {"!1;", "2"}, {"!1<", "3"}, {"!1<2<3", "4"},
            {"!1<2?3:4", "4"}, {"!!1<2", "1"}, {"!Aw=", "4"}, {"!Kw=1", "1"}, {"Aw=1;Aw=2", "5"}, {"Aw=1;Aw", "5"},
            {"Aw=1;A", "6"}, {"Aw=1;Ak", "6"}, {"Bw=1;Aw=Bw;Bw=1", "11"}, {"Aw=1;Ah=2!", "9"}};
        for (String[] row : bad) {
            if (row[0].indexOf(' ') < 0) {
                dueRead(row[0], -1 - Integer.parseInt(row[1]));
            }
        }
        dueRead("Aw=Bw;Bw=Aw;Cw=Cw", 3);
        dueRead(definitions(24), 24);
        dueRead(definitions(24) + ";", -1 - definitions(24).length());
        dueRead(definitions(25), -1 - definitions(24).length());
        dueRead(definitions(23) + ";!1<2", 24);
        String four = "Aw=" + repeat("1<2?3:", 4);
        dueRead(four + "5", 1);
        dueRead(four + "5;Bw=" + repeat("1<2?3:", 4) + "5", 2);
        dueRead(four + "5<6?7:8", -1 - (four.length() + 1));
        dueRead(four + "5=", -1 - (four.length() + 1));
        dueRead("Aw=" + repeat("(", 8) + "1" + repeat(")", 8), 1);
        dueRead("Aw=" + repeat("(", 9) + "1" + repeat(")", 9), -1 - 11);
        dueRead("Aw=" + repeat("(", 8) + "1" + repeat(")", 8) + "+" + repeat("(", 8) + "1" + repeat(")", 8), 1);
        dueRead("Aw=" + repeat("(-", 4) + "1" + repeat(")", 4) + "*(2)", 1);
        dueRead("Aw=" + repeat("(-", 4) + "-1" + repeat(")", 4), -1 - 11);
        dueRead("Aw=" + repeat("-(", 4) + "(1)" + repeat(")", 4), -1 - 11);
        dueRead("Aw=" + repeat("(-1)-", 20) + "-(-1)", 1);
        dueRead("Aw=" + repeat("-", 8) + "1--" + repeat("-", 7) + "1", 1);
        dueRead("Aw=" + repeat("-", 9) + "1", -1 - 11);
        dueRead("Aw=" + repeat("-", 397), -1 - 11);
        dueCell("Aw=-------1", "Aw", "-1/1");

        PartFormulas f = ran("Aw=5;!Aw<5");
        due("a bad text", -4, () -> read(f, "Bw="));
        due("what was read before stays", "Aw=5;!Aw<5", () -> printed(f));
        due("what was worked out before stays", "5/1", () -> cell(f, "Aw"));
        due("a limit of before stays", 1, () -> f.limit(0, 0));
        due("the text is empty after a bad one", 1, () -> read(f, "Bw=6"));
        due("nothing was worked out since", STATE, () -> f.state(0, 0));
        due("run", 0, f::run);
        due("the old cell is not defined", "state 0", () -> cell(f, "Aw"));
        due("the new one is", "6/1", () -> cell(f, "Bw"));
    }

    private static void promise4Write() {
        due("write without a text", STATE, () -> new PartFormulas().write(0));
        due("write(-1) without a text", STATE, () -> new PartFormulas().write(-1));
        due("write(-1)", ARGUMENT, () -> with("Aw=1").write(-1));
        due("write(MIN)", ARGUMENT, () -> with("Aw=1").write(Integer.MIN_VALUE));
        due("write behind the end", NONE, () -> with("Aw=1").write(4));
        due("write far behind the end", NONE, () -> with("Aw=1").write(Integer.MAX_VALUE));
        due("write", (int) '1', () -> with("Aw=1").write(3));
        String[][] rows = {
            {"Aw=007", "Aw=7"}, {"Aw=00000", "Aw=0"}, {"Aw=0.5", "Aw=0.5"}, {"Aw=00.50", "Aw=0.5"}, {"Aw=1.000", "Aw=1"},
            {"Aw=0.0", "Aw=0"}, {"Aw=10.010", "Aw=10.01"}, {"Aw=100", "Aw=100"}, {"Aw=01000.100", "Aw=1000.1"},
            {"Aw=(a)", "Aw=a"}, {"Aw=((a+b))", "Aw=a+b"}, {"Aw=(a+b)+c", "Aw=a+b+c"}, {"Aw=a+(b+c)", "Aw=a+(b+c)"},
            {"Aw=a-(b-c)", "Aw=a-(b-c)"}, {"Aw=a+(b*c)", "Aw=a+b*c"}, {"Aw=(a*b)*c", "Aw=a*b*c"},
            {"Aw=a*(b*c)", "Aw=a*(b*c)"}, {"Aw=a/(b/c)", "Aw=a/(b/c)"}, {"Aw=(a+b)*c", "Aw=(a+b)*c"},
            {"Aw=((a+b))*c", "Aw=(a+b)*c"}, {"Aw=c*((a-b))", "Aw=c*(a-b)"}, {"Aw=-(a*b)", "Aw=-(a*b)"},
            {"Aw=-(a+b)", "Aw=-(a+b)"}, {"Aw=-(a)", "Aw=-a"}, {"Aw=-(-(a))", "Aw=--a"}, {"Aw=(-a)*b", "Aw=-a*b"},
            {"Aw=a*(-b)", "Aw=a*-b"}, {"Aw=a-(-b)", "Aw=a--b"}, {"Aw=(-(a*b))*c", "Aw=-(a*b)*c"},
            {"Aw=a+((b+c)*d)", "Aw=a+(b+c)*d"}, {"Aw=a+((b*c)*d)", "Aw=a+b*c*d"}, {"Aw=a/((b*c)*d)", "Aw=a/(b*c*d)"},
            {"Aw=a+((b+c)+d)", "Aw=a+(b+c+d)"}, {"Aw=(a*b)+(c*d)", "Aw=a*b+c*d"}, {"Aw=--(a+b)", "Aw=--(a+b)"},
            {"Aw=-((a+b)*c)", "Aw=-((a+b)*c)"}, {"Aw=(((a)*(b)))", "Aw=a*b"}, {"Aw=a*((-(b+c)))", "Aw=a*-(b+c)"},
            {"Aw=((a+b)*c)+d", "Aw=(a+b)*c+d"}, {"Aw=((a*b)+c)*d", "Aw=(a*b+c)*d"}, {"Aw=(a/b)-c", "Aw=a/b-c"},
            {"Aw=(a)<(b)?(c+d):((1.50))", "Aw=a<b?c+d:1.5"}, {"!(a+b)<((c*d));Bh=(Aw)", "!a+b<c*d;Bh=Aw"},
            {"Aw=(a+b)/2=(3-a)*1?(a+1)-1:(2)>1?-(3):(a)", "Aw=(a+b)/2=(3-a)*1?a+1-1:2>1?-3:a"}};
        for (String[] row : rows) {
            duePrinted(row[0], row[1]);
        }
    }

    private static void promise5Set() {
        PartFormulas f = new PartFormulas();
        due("set(8)", INDEX, () -> f.set(8, 1, 0));
        due("set(-1)", INDEX, () -> f.set(-1, 1, 1));
        due("below 0", ARGUMENT, () -> f.set(0, 1, 0));
        due("below -1", ARGUMENT, () -> f.set(0, 1, -1));
        due("below MIN", ARGUMENT, () -> f.set(0, 1, Long.MIN_VALUE));
        due("below too large", ARGUMENT, () -> f.set(0, LARGEST + 1, LARGEST + 1));
        due("above too large", ARGUMENT, () -> f.set(0, LARGEST + 1, 1));
        due("above too small", ARGUMENT, () -> f.set(0, -LARGEST - 1, 1));
        due("above MIN", ARGUMENT, () -> f.set(0, Long.MIN_VALUE, 1));
        due("too large, though it would be shortened", ARGUMENT, () -> f.set(0, 2 * LARGEST, 2));
        due("nothing has changed", false, () -> f.set(0, 0, LARGEST));
        due("the largest", true, () -> f.set(0, LARGEST, 1));
        due("the largest again", false, () -> f.set(0, LARGEST, 1));
        due("the smallest", true, () -> f.set(0, -LARGEST, LARGEST));
        due("it is -1", false, () -> f.set(0, -3, 3));
        due("6/4", true, () -> f.set(7, 6, 4));
        due("3/2", false, () -> f.set(7, 3, 2));
        due("read", 3, () -> read(f, "Aw=h;Bw=Aw*2;Cw=a"));
        due("set before run", true, () -> f.set(0, 4, 1));
        due("nothing is reckoned before run", 0, f::reckoned);
        due("run", 0, f::run);
        due("Aw", "3/2", () -> cell(f, "Aw"));
        due("set after run", true, () -> f.set(7, -5, 10));
        due("Aw again", "-1/2", () -> cell(f, "Aw"));
        due("Bw again", "-1/1", () -> cell(f, "Bw"));
        due("Cw", "4/1", () -> cell(f, "Cw"));
        due("reckoned", 5, f::reckoned);
        due("set the same", false, () -> f.set(7, -1, 2));
        due("reckoned no more", 5, f::reckoned);
        due("a wrong set", ARGUMENT, () -> f.set(7, 1, 0));
        due("it changed nothing", "-1/2", () -> cell(f, "Aw"));
        due("a bad read", -1, f::read);
        due("set after a bad read", true, () -> f.set(7, 1, 1));
        due("works out again", "2/1", () -> cell(f, "Bw"));
    }

    private static void promise6Run() {
        due("run without a text", STATE, () -> new PartFormulas().run());
        due("all good", 0, () -> with("Aw=1;!1>2").run());
        due("limits only", 0, () -> with("!Aw=1").run());
        due("the first without a value", 3, () -> with("Aw=1;!1<2;Bw=1/0;Cw=Bw").run());
        due("a ring", 1, () -> with("Aw=Aw").run());
        due("the 24th", 24, () -> with(definitions(23) + ";Jz=Jz").run());
        dueCell("Aw=Bw+1;Bw=Cw+1;Cw=1", "Aw", "3/1");
        dueCell(chain(), "Aw", "-23/1");
        due("all of a long chain", 0, () -> with(chain()).run());
        dueCell("Aw=1/3+1/6", "Aw", "1/2");
        dueCell("Aw=1/-3", "Aw", "-1/3");
        dueCell("Aw=-1/-3", "Aw", "1/3");
        dueCell("Aw=2-3-4", "Aw", "-5/1");
        dueCell("Aw=2-(3-4)", "Aw", "3/1");
        dueCell("Aw=12/2/3*4", "Aw", "8/1");
        dueCell("Aw=2+3*4", "Aw", "14/1");
        dueCell("Aw=-2*3", "Aw", "-6/1");
        dueCell("Aw=0/7", "Aw", "0/1");
        dueCell("Aw=-0", "Aw", "0/1");
        dueCell("Aw=12.250", "Aw", "49/4");
        dueCell("Aw=99999.999", "Aw", "99999999/1000");
        dueCell("Aw=((1+2)*(3-4))/-(5)", "Aw", "3/5");
        dueCell("Aw=1<2?1:1/0", "Aw", "1/1");
        dueCell("Aw=2<1?1/0:Bw=3?5:6", "Aw", "state 5");
        dueCell("Aw=2<1?1/0:3>2?5:Bw", "Aw", "5/1");
    }

    private static void promise7State() {
        due("state without a text", STATE, () -> new PartFormulas().state(10, 0));
        due("state without run", STATE, () -> with("Aw=1").state(0, 9));
        int[][] none = {{-1, 0}, {10, 0}, {0, -1}, {0, 6}, {Integer.MAX_VALUE, 0}, {0, Integer.MIN_VALUE}};
        for (int[] row : none) {
            due("state out of bounds", INDEX, () -> ran("Aw=1").state(row[0], row[1]));
        }
        dueCell("Jz=1", "Jz", "1/1");
        dueCell("Aw=1", "Ah", "state 0");
        dueCell("Aw=1/0", "Aw", "state 2");
        dueCell("Aw=a/(b-b)", "Aw", "state 2");
        dueCell("Aw=Aw", "Aw", "state 4");
        dueCell("Aw=Bw;Bw=Cw;Cw=Aw", "Bw", "state 4");
        dueCell("Aw=Bw;Bw=Bw", "Aw", "state 5");
        dueCell("Aw=1<2?1:Aw", "Aw", "state 4");
        dueCell("Aw=Bw", "Aw", "state 5");
        dueCell("Aw=Bw/0", "Aw", "state 5");
        dueCell("Aw=1/0+Bw", "Aw", "state 2");
        dueCell("Aw=1/(0*Bw)", "Aw", "state 5");
        dueCell("Aw=1/0<Bw?1:2", "Aw", "state 2");
        dueCell("Aw=Bw<1/0?1:2", "Aw", "state 5");
        dueCell("Aw=1<1/0?1:2", "Aw", "state 2");
        dueCell("Aw=10000*10000*10", "Aw", "1000000000/1");
        dueCell("Aw=-10000*10000*10", "Aw", "-1000000000/1");
        dueCell("Aw=10000*10000*10+1", "Aw", "state 3");
        dueCell("Aw=-10000*10000*10-1", "Aw", "state 3");
        dueCell("Aw=10000*10000*10+0.001-1", "Aw", "state 3");
        dueCell("Aw=1/10000/10000/10", "Aw", "1/1000000000");
        dueCell("Aw=1/10000/10000/11", "Aw", "state 3");
        dueCell("Aw=99999*99999*0", "Aw", "state 3");
        dueCell("Aw=99999*99999+1/0", "Aw", "state 3");
        dueCell("Aw=1/0+99999*99999", "Aw", "state 2");
        dueCell("Aw=(10000*10000*10)*(1/10000/10000/10)", "Aw", "1/1");
        dueCell("Aw=10000*10000*10>1/10000/10000/10?7:8", "Aw", "7/1");
        dueCell("Aw=-(10000*10000*10)", "Aw", "-1000000000/1");
    }

    private static void promise8Size() {
        due("size: part first", INDEX, () -> new PartFormulas().size(10, 0, 2));
        due("size: measure first", INDEX, () -> new PartFormulas().size(0, 6, 2));
        due("size: part below 0", INDEX, () -> new PartFormulas().size(-1, 0, 0));
        due("size: which before state", ARGUMENT, () -> new PartFormulas().size(0, 0, 2));
        due("size: which -1", ARGUMENT, () -> ran("Aw=1").size(0, 0, -1));
        due("size: no text", STATE, () -> new PartFormulas().size(0, 0, 0));
        due("size: no run", STATE, () -> with("Aw=1").size(0, 0, 0));
        due("size: not defined", STATE, () -> ran("Aw=1").size(0, 1, 0));
        due("size: ring", STATE, () -> ran("Aw=Aw").size(0, 0, 1));
        due("numerator", -3, () -> ran("Jz=6/-4").size(9, 5, 0));
        due("denominator", 2, () -> ran("Jz=6/-4").size(9, 5, 1));
    }

    private static void promise9Ring() {
        due("ring without a text", STATE, () -> new PartFormulas().ring(-1));
        due("ring(-1)", ARGUMENT, () -> with("Aw=1").ring(-1));
        due("no ring", NONE, () -> with("Aw=Bw;Bw=Cw").ring(0));
        PartFormulas f = with("Jz=Jz;Cw=Bh;Bh=1<2?3:Cw;Aw=Bh;!Ad=Ad");
        due("ring 0", 7, () -> f.ring(0));
        due("ring 1", 12, () -> f.ring(1));
        due("ring 2", 59, () -> f.ring(2));
        due("ring 3", NONE, () -> f.ring(3));
        due("ring MAX", NONE, () -> f.ring(Integer.MAX_VALUE));
    }

    private static void promise10Condition() {
        due("condition without run", STATE, () -> with("Aw=1").condition(-1, 0));
        due("condition part", INDEX, () -> ran("Aw=1").condition(10, 0));
        due("condition measure", INDEX, () -> ran("Aw=1").condition(0, 6));
        due("no conditions", 0, () -> ran("Aw=1").condition(0, 0));
        due("not defined", NONE, () -> ran("Aw=1").condition(0, 1));
        due("ring", NONE, () -> ran("Aw=Aw").condition(0, 0));
        due("a condition without a value", NONE, () -> ran("Aw=1<2?1/0:3").condition(0, 0));
        PartFormulas f = ran("Aw=a<1?10:a<2?20:a=2?30:a>9?40:50");
        int[][] rows = {{0, 0, 10}, {1, 1, 20}, {2, 2, 30}, {10, 3, 40}, {5, 4, 50}};
        for (int[] row : rows) {
            f.set(0, row[0], 1);
            due("a = " + row[0], row[1], () -> f.condition(0, 0));
            due("its value", row[2] + "/1", () -> cell(f, "Aw"));
        }
    }

    private static void promise11Line() {
        due("line without a text", STATE, () -> new PartFormulas().line(10, 0));
        due("line part", INDEX, () -> with("Aw=1").line(10, 0));
        due("line measure", INDEX, () -> with("Aw=1").line(0, -1));
        PartFormulas f = with("!1<2;Aw=Bw;Jz=1");
        due("line Aw", 1, () -> f.line(0, 0));
        due("line Jz", 2, () -> f.line(9, 5));
        due("line Bw", NONE, () -> f.line(1, 0));
    }

    private static void promise12Needs() {
        due("needs without a text", STATE, () -> new PartFormulas().needs(60, 0));
        due("needs 60", INDEX, () -> with("Aw=1").needs(60, 0));
        due("needs other 60", INDEX, () -> with("Aw=1").needs(0, 60));
        due("needs -1", INDEX, () -> with("Aw=1").needs(0, -1));
        PartFormulas f = with("Aw=1<2?3:Bw;Bw=Jz*0;Cw=Dw<1?1:2;Ew=Fw;Fw=Ew;Gw=Ew;!Hw=Aw");
        int[][] yes = {{0, 6}, {0, 59}, {6, 59}, {12, 18}, {24, 30}, {24, 24}, {30, 30}, {36, 24}, {36, 30}};
        int[][] no = {{0, 0}, {6, 0}, {59, 0}, {12, 12}, {24, 36}, {42, 0}, {36, 36}, {0, 18}, {59, 59}};
        for (int[] row : yes) {
            due("needs " + row[0] + " " + row[1], true, () -> f.needs(row[0], row[1]));
        }
        for (int[] row : no) {
            due("needs " + row[0] + " " + row[1], false, () -> f.needs(row[0], row[1]));
        }
    }

    private static void promise13Limit() {
        due("limit without run", STATE, () -> with("!1<2").limit(-1, 0));
        due("limit(-1)", ARGUMENT, () -> ran("!1<2").limit(-1, 0));
        due("limit what 2", ARGUMENT, () -> ran("!1<2").limit(0, 2));
        due("limit what -1", ARGUMENT, () -> ran("!1<2").limit(0, -1));
        PartFormulas f = ran("!1<2;!2<1;Aw=3;!1/0<Bw;!Bw=1/0;!99999*99999>1;!Aw=3;!a=0");
        int[][] rows = {{1, 1}, {3, 2}, {4, 5}, {5, 3}, {NONE, NONE}};
        for (int k = 0; k < rows.length; k++) {
            int at = k;
            due("limit " + k, rows[k][0], () -> f.limit(at, 0));
            due("limit why " + k, rows[k][1], () -> f.limit(at, 1));
        }
        due("set", true, () -> f.set(0, 1, 1));
        due("limit by option", 7, () -> f.limit(4, 0));
        due("not greater", 0, () -> ran("!2>2").limit(0, 0));
        due("not smaller", 0, () -> ran("!2<2").limit(0, 0));
        due("equal", NONE, () -> ran("!4/6=2/3").limit(0, 0));
        due("below 0", NONE, () -> ran("!-1/2<-1/3").limit(0, 0));
        due("ring", 5, () -> ran("Aw=Aw;!Aw=1").limit(0, 1));
    }

    private static void promise14Check() {
        due("check without run", STATE, () -> with("!1<2").check(-1));
        due("check(-1)", ARGUMENT, () -> ran("!1<2").check(-1));
        due("check(51)", ARGUMENT, () -> ran("!1<2").check(51));
        due("check(50)", 50, () -> ran("Aw=a;!Aw<50").check(50));
        due("check(49)", NONE, () -> ran("Aw=a;!Aw<50").check(49));
        due("check(0) holds", NONE, () -> ran("!1<2").check(0));
        due("check(0) broken", 0, () -> ran("!1>2").check(0));
        due("no limits", NONE, () -> ran("Aw=1").check(50));
        due("by the letter in a limit", 7, () -> ran("!a<7").check(50));
        due("what can't be reckoned", 3, () -> ran("Bw=1/(a-3);!Bw<9").check(9));
        PartFormulas f = ran("Aw=a*2;Bw=Aw+b;!Bw<10");
        f.set(0, 1, 3);
        long before = f.reckoned();
        due("check with a fraction", 5, () -> f.check(50));
        due("nothing was reckoned", before, f::reckoned);
        due("the option is as before", false, () -> f.set(0, 1, 3));
        due("the cells are as before", "2/3", () -> cell(f, "Bw"));
        due("the limit is as before", NONE, () -> f.limit(0, 0));
        due("same", true, f::same);
        PartFormulas g = ran("!a<1");
        g.set(0, LARGEST - 1, LARGEST);
        due("a numerator that gets too large ends it", NONE, () -> g.check(50));
        g.set(0, -1, LARGEST);
        due("the sum's numerator still fits", NONE, () -> g.check(1));
        due("the next one's does not", NONE, () -> g.check(2));
        PartFormulas h = ran("!a<10000*10000*10");
        h.set(0, LARGEST - 3, 1);
        due("the largest is tried", 3, () -> h.check(3));
        PartFormulas i = ran("!a<0");
        i.set(0, -LARGEST, LARGEST - 1);
        due("from below 0 on", 2, () -> i.check(50));
    }

    private static void promise15Version() {
        due("version without a text", STATE, () -> new PartFormulas().version());
        due("version without run", STATE, () -> with("Aw=1").version());
        PartFormulas f = ran("Aw=a");
        for (int v = 0; v < 4; v++) {
            due("version", v, f::version);
        }
        due("a fifth version", STATE, f::version);
        due("read again", 1, () -> read(f, "Bw=1"));
        due("no version before run", STATE, f::version);
        f.run();
        due("still no room", STATE, f::version);
    }

    private static void promise16Differs() {
        due("differs without run", STATE, () -> with("Aw=1").differs(-1, -1));
        due("no such version", INDEX, () -> ran("Aw=1").differs(0, -1));
        PartFormulas f = ran("Aw=a;Bw=1/a;Cw=b;Dw=a<5?1:1;Jz=0-a");
        due("version", 0, f::version);
        due("version -1", INDEX, () -> f.differs(-1, 0));
        due("version 1", INDEX, () -> f.differs(1, 0));
        due("k -1", ARGUMENT, () -> f.differs(0, -1));
        due("no difference", NONE, () -> f.differs(0, 0));
        f.set(0, 7, 1);
        due("Aw differs", 0, () -> f.differs(0, 0));
        due("Bw differs", 6, () -> f.differs(0, 1));
        due("Jz differs", 59, () -> f.differs(0, 2));
        due("no more", NONE, () -> f.differs(0, 3));
        due("version 1", 1, f::version);
        f.set(0, 0, 1);
        due("as in 0 again", NONE, () -> f.differs(0, 0));
        due("not as in 1", 0, () -> f.differs(1, 0));
        due("another text", 2, () -> read(f, "Aw=0;Cw=5"));
        due("before run", STATE, () -> f.differs(0, 0));
        f.run();
        due("Bw was there", 6, () -> f.differs(0, 0));
        due("Cw has another value", 12, () -> f.differs(0, 1));
        due("Dw was there", 18, () -> f.differs(0, 2));
        due("Jz was there", 59, () -> f.differs(0, 3));
        due("that is all", NONE, () -> f.differs(0, 4));
        due("denominators count", 0, () -> {
            PartFormulas g = ran("Aw=1/(a+1)");
            g.version();
            g.set(0, 1, 1);
            return g.differs(0, 0);
        });
    }

    private static void promise17Same() {
        due("same without a text", STATE, () -> new PartFormulas().same());
        due("same without run", STATE, () -> with("Aw=1").same());
        PartFormulas f = ran("Aw=a;Bw=Aw<3?Cw:b;Cw=Aw/b;Dw=Dw+a;Ew=Dw");
        due("same", true, f::same);
        for (int i = 0; i < 6; i++) {
            f.set(i % 2, i, 1 + i % 3);
            due("same after set", true, f::same);
        }
        due("check", NONE, () -> f.check(50));
        due("same after check", true, f::same);
        due("same reckons nothing that counts", 4 + 2 * 4 + 3 * 2, f::reckoned);
    }

    private static void promise18Reckoned() {
        PartFormulas f = with("Aw=a;Bw=1<2?3:a;Cw=Bw;Dw=b;Ew=Ew+a;Fw=Ew;Gw=1/0+c;Hw=Iw;!Aw=a");
        due("reading reckons nothing", 0, f::reckoned);
        f.run();
        due("run: all but the ring", 7, f::reckoned);
        f.run();
        due("run again", 14, f::reckoned);
        f.set(1, 1, 1);
        due("b: Dw", 15, f::reckoned);
        f.set(0, 1, 1);
        due("a: Aw, Bw, Cw and, by the ring, Fw", 19, f::reckoned);
        f.set(2, 1, 1);
        due("c: Gw, though it has no value", 20, f::reckoned);
        f.set(3, 1, 1);
        due("d: none", 20, f::reckoned);
        f.check(50);
        f.same();
        due("check and same: none", 20, f::reckoned);
        read(f, "Aw=a");
        f.set(0, 2, 1);
        due("a new text: none", 20, f::reckoned);
        f.run();
        due("it is counted on", 21, f::reckoned);
    }

    public static void main(String[] args) {
        face();
        readmeExample();
        promise1NewObject();
        promise2Unit();
        promise3Read();
        promise4Write();
        promise5Set();
        promise6Run();
        promise7State();
        promise8Size();
        promise9Ring();
        promise10Condition();
        promise11Line();
        promise12Needs();
        promise13Limit();
        promise14Check();
        promise15Version();
        promise16Differs();
        promise17Same();
        promise18Reckoned();
        finish("all promises hold");
    }
}
