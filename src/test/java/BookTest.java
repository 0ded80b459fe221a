/** Promises 1 to 6: a new object, the tape and the book. */
public final class BookTest {
    private static final Check CHECK = new Check();

    public static void main(String[] args) {
        newObject();
        feedAndCut();
        describeOnce();
        goodBooks();
        noToken();
        cannotStand();
        tooMany();
        toldAlready();
        notTold();
        leastFault();
        counts();
        greatestBook();
        CHECK.end();
    }

    private static void newObject() {
        CHECK.part("new object");
        RemoteDesks x = new RemoteDesks();
        CHECK.due("place()", x.place(), Check.NONE);
        CHECK.due("count(0)", x.count(0), 1);
        for (int what = 1; what <= 10; what++) {
            CHECK.due("count(" + what + ")", x.count(what), 0);
        }
        CHECK.due("count(-1)", x.count(-1), Check.OUTSIDE);
        CHECK.due("count(11)", x.count(11), Check.OUTSIDE);
        CHECK.due("cut(0)", x.cut(0), 0);
        CHECK.due("open()", x.open(), 0);
        CHECK.due("letter", x.letter(1), 1);
        CHECK.due("node(0)", x.node(0), Check.UNKNOWN);
        CHECK.due("stock(-1, 0)", x.stock(-1, 0), 0);
    }

    private static void feedAndCut() {
        CHECK.part("feed, cut");
        RemoteDesks x = new RemoteDesks();
        CHECK.due("cut(1) of none", x.cut(1), Check.OUTSIDE);
        CHECK.due("cut(-1)", x.cut(-1), Check.OUTSIDE);
        for (int i = 1; i <= 75; i++) {
            CHECK.due("feed", x.feed(0x20202020, 0x20202020, 0x20202020, 0x20202020, 0x20202020), 20 * i);
        }
        CHECK.due("feed at 1500", x.feed(0, 0, 0, 0, 0), Check.FULL);
        CHECK.due("cut(1501)", x.cut(1501), Check.OUTSIDE);
        CHECK.due("cut(1500)", x.cut(1500), 0);
        CHECK.due("cut(1481)", x.cut(1481), 19);
        CHECK.due("feed at 1481", x.feed(0, 0, 0, 0, 0), Check.FULL);
        CHECK.due("cut(1480)", x.cut(1480), 1);
        CHECK.due("feed at 1480", x.feed(0x20202020, 0x20202020, 0x20202020, 0x20202020, 0x20202021), 1500);
        CHECK.due("describe", x.describe(), -2);
        CHECK.due("place", x.place(), 1499);
        CHECK.due("the tape is empty", x.cut(1), Check.OUTSIDE);
        // "service a { int b(int); }" with each number's highest byte first
        CHECK.due("feed", x.feed(0x73657276, 0x69636520, 0x61207b20, 0x696e7420, 0x6228696e), 20);
        CHECK.due("feed", x.feed(0x74293b20, 0x7d202020, 0xff00ff00, 0xffffffff, 0), 40);
        CHECK.due("cut(28)", x.cut(28), 12);
        CHECK.due("describe", x.describe(), 1);
        cutAway();
    }

    /** What was cut away is not read, and the last byte of the longest tape is. */
    private static void cutAway() {
        RemoteDesks x = new RemoteDesks();
        Make.tape(x, "failure abcdefghijklm;");
        x.cut(16);
        CHECK.due("describe", x.describe(), -3);
        CHECK.due("place", x.place(), 16);
        StringBuilder text = new StringBuilder("failure a;");
        while (text.length() < 1499) {
            text.append('\n');
        }
        CHECK.due("describe", Make.describe(x, text + "b"), -3);
        CHECK.due("place", x.place(), 1499);
        text.setLength(1490);
        CHECK.due("describe", Make.describe(x, text + "failure b;"), 0);
        CHECK.due("kinds", x.count(0), 3);
    }

    private static void describeOnce() {
        CHECK.part("describe once");
        RemoteDesks x = new RemoteDesks();
        CHECK.due("a fault", Make.describe(x, "record a {"), -3);
        CHECK.due("place", x.place(), 10);
        CHECK.due("no record", x.count(1), 0);
        CHECK.due("the tape is taken", x.cut(0), 0);
        CHECK.due("a book", Make.describe(x, "failure f; record a { } service s { }"), 1);
        CHECK.due("place", x.place(), Check.NONE);
        CHECK.due("kinds", x.count(0), 2);
        Make.tape(x, "wrong");
        CHECK.due("describe again", x.describe(), Check.NOT);
        CHECK.due("place stays", x.place(), Check.NONE);
        CHECK.due("the tape stays", x.cut(0), 5);
        CHECK.due("kinds stay", x.count(0), 2);
    }

    private static void fault(String text, int fault, int place) {
        RemoteDesks x = new RemoteDesks();
        CHECK.due("describe " + text, Make.describe(x, text), -1 - fault);
        CHECK.due("place in " + text, x.place(), place);
        CHECK.due("kinds of " + text, x.count(0), 1);
        CHECK.due("records of " + text, x.count(1), 0);
        CHECK.due("services of " + text, x.count(2), 0);
    }

    /** At the first place of a part of the text. */
    private static void faultAt(String text, int fault, String part) {
        fault(text, fault, text.indexOf(part));
    }

    private static void good(String text, int kinds, int records, int services) {
        RemoteDesks x = new RemoteDesks();
        CHECK.due("describe " + text, Make.describe(x, text), services);
        CHECK.due("place in " + text, x.place(), Check.NONE);
        CHECK.due("kinds of " + text, x.count(0), kinds + 1);
        CHECK.due("records of " + text, x.count(1), records);
        CHECK.due("services of " + text, x.count(2), services);
    }

    private static void goodBooks() {
        CHECK.part("good books");
        good("", 0, 0, 0);
        good(" \n ", 0, 0, 0);
        good("failure a;failure b of a;", 2, 0, 0);
        good("\nfailure\na\n;\n", 1, 0, 0);
        good("record r{}", 0, 1, 0);
        good("record r{r a;int r;text text_;".replace("text_", "t") + "}", 0, 1, 0);
        good("record abcdefgh{}service zyxwvuts{abcdefgh m();zyxwvuts abcdefgh(zyxwvuts,abcdefgh,int);}", 0, 1, 1);
        good("service s { s s(s); } record r { s s; r r; }", 0, 1, 1);
        good("service s { int a(); long b(int); double c(int, long); boolean d(double, boolean, text); }", 0, 0, 1);
        good("record a { int x; } record b { int x; } service c { int x(); } service d { int x(); }", 0, 2, 2);
        good("failure z; record a { int z; } service b { int z(); int a(); int b(); }", 1, 1, 1);
        good(many("failure ", 8, ";"), 8, 0, 0);
        good(many("record ", 6, "{}"), 0, 6, 0);
        good(many("service ", 8, "{}"), 0, 0, 8);
        good("record r{" + many("int ", 6, ";") + "}", 0, 1, 0);
        good("service s{" + many("int ", 8, "();") + "}", 0, 0, 1);
        good(many("failure k", 8, ";") + many("record r", 6, "{}") + many("service s", 8, "{}"), 8, 6, 8);
        good("service s { int a(int, int, int); }", 0, 0, 1);
    }

    private static String many(String before, int n, String behind) {
        StringBuilder all = new StringBuilder();
        for (int i = 0; i < n; i++) {
            all.append(before).append((char) ('a' + i)).append(behind);
        }
        return all.toString();
    }

    private static void noToken() {
        CHECK.part("fault 1");
        fault("A", 1, 0);
        fault("  1", 1, 2);
        fault("\t", 1, 0);
        fault("\r", 1, 0);
        fault("\u0000", 1, 0);
        fault("\u00ff", 1, 0);
        fault("failure ab1;", 1, 10);
        fault("failure a:", 1, 9);
        fault("failure a`;", 1, 9);
        fault("failure a|;", 1, 9);
        fault("failure abcdefghi;", 1, 8);
        fault("failureab x;", 1, 0);
        faultAt("record r { int abcdefghijkl; }", 1, "abc");
        faultAt("record r { int a; ? }", 1, "?");
        faultAt("record r { abcdefghi a; }", 1, "abc");
        faultAt("service s { int a(abcdefghi); }", 1, "abc");
        faultAt("service s { int a(int,int,int,%", 1, "%");
        faultAt("failure a of [;", 1, "[");
        faultAt("failure a; [", 1, "[");
        faultAt("failure a; ]{", 1, "]");
    }

    private static void cannotStand() {
        CHECK.part("fault 2");
        fault("a", 2, 0);
        fault(";", 2, 0);
        fault("of", 2, 0);
        fault("int", 2, 0);
        fault("failure", 2, 7);
        fault("failure  \n", 2, 10);
        fault("failure of;", 2, 8);
        fault("failure failure;", 2, 8);
        fault("failure text;", 2, 8);
        fault("failure boolean;", 2, 8);
        fault("failure double;", 2, 8);
        fault("failure long;", 2, 8);
        fault("failure int;", 2, 8);
        fault("failure record;", 2, 8);
        fault("failure service;", 2, 8);
        fault("failure a b;", 2, 10);
        fault("failure a of;", 2, 12);
        fault("failure a of of;", 2, 13);
        fault("failure a; failure b of a", 2, 25);
        fault("failure a; failure b of a a", 2, 26);
        fault("failure a;;", 2, 10);
        fault("record r;", 2, 8);
        fault("record r{", 2, 9);
        fault("record r{;", 2, 9);
        fault("record r{int;", 2, 12);
        fault("record r{int a}", 2, 14);
        fault("record r{int a,", 2, 14);
        fault("record r{int int;}", 2, 13);
        fault("record r{of a;}", 2, 9);
        fault("record r{failure a;}", 2, 9);
        fault("record r{service a;}", 2, 9);
        fault("record r{}}", 2, 10);
        fault("record r{} ;", 2, 11);
        fault("record r()", 2, 8);
        fault("service s{int a;}", 2, 15);
        fault("service s{int a(}", 2, 16);
        fault("service s{int a(,", 2, 16);
        fault("service s{int a(int", 2, 19);
        fault("service s{int a(int int", 2, 20);
        fault("service s{int a(int,)", 2, 20);
        fault("service s{int a(int,of", 2, 20);
        fault("service s{int a(int)}", 2, 20);
        fault("service s{int a();;", 2, 18);
        fault("service s{int a();", 2, 18);
        fault("service s{int of();", 2, 14);
        fault("service s{record a();", 2, 10);
        fault("service s{int a(int,int,int,)", 2, 28);
        fault("service s{int a(int,int,int,failure", 2, 28);
        fault("service s{int a(int,int,int int", 2, 28);
        fault("service int{", 2, 8);
    }

    private static void tooMany() {
        CHECK.part("fault 3");
        faultAt(many("failure ", 9, ";"), 3, "i;");
        fault(many("record ", 7, "{}"), 3, 6 * 10 + 7);
        fault(many("service ", 9, "{}"), 3, 8 * 11 + 8);
        fault("record r{" + many("int ", 7, ";") + "}", 3, 9 + 6 * 6 + 4);
        fault("service s{" + many("int ", 9, "();") + "}", 3, 10 + 8 * 8 + 4);
        fault("service s{int a(int,long,text,boolean);}", 3, 30);
        fault("service s{int a(int,long,text,s);}", 3, 30);
    }

    private static void toldAlready() {
        CHECK.part("fault 4");
        fault("failure a;failure a;", 4, 18);
        fault("failure a;record a{}", 4, 17);
        fault("failure a;service a{}", 4, 18);
        fault("record a{}failure a;", 4, 18);
        fault("record a{}record a{}", 4, 17);
        fault("record a{}service a{}", 4, 18);
        fault("service a{}failure a;", 4, 19);
        fault("service a{}record a{}", 4, 18);
        fault("service a{}service a{}", 4, 19);
        fault("record r{int a;int b;long a;}", 4, 26);
        fault("service s{int a();int b();long a(int);}", 4, 31);
        fault("service s{int abcdefgh();int abcdefgz();long abcdefgh(int);}", 4, 45);
    }

    private static void notTold() {
        CHECK.part("fault 5");
        fault("failure a of a;", 5, 13);
        fault("failure a of b;", 5, 13);
        fault("failure a of b;failure b;", 5, 13);
        fault("record r{}failure a of r;", 5, 23);
        fault("service r{}failure a of r;", 5, 24);
        fault("record r{s a;}service s{}", 5, 9);
        fault("failure k;record r{k a;}", 5, 19);
        fault("service s{r a();}record r{}", 5, 10);
        fault("service s{int a(r);}record r{}", 5, 16);
        fault("service s{int a(int,s,a);}", 5, 22);
        fault("failure k;service s{int a(k);}", 5, 26);
        fault("failure k;service s{k a();}", 5, 20);
        fault("record r{int a;a b;}", 5, 15);
    }

    private static void leastFault() {
        CHECK.part("the least fault");
        fault(many("failure ", 8, ";") + "failure a;", 3, 8 * 10 + 8);
        fault(many("record ", 6, "{}") + "record a{}", 3, 6 * 10 + 7);
        fault(many("service ", 8, "{}") + "service a{}", 3, 8 * 11 + 8);
        fault("record r{" + many("int ", 6, ";") + "int a;}", 3, 9 + 6 * 6 + 4);
        fault("record r{" + many("int ", 6, ";") + "zz a;}", 5, 9 + 6 * 6);
        fault("record r{" + many("int ", 6, ";") + "int ;}", 2, 9 + 6 * 6 + 4);
        fault("service s{int a(int,int,int,zz);}", 3, 28);
        fault("service s{int a(int,int,int,zzzzzzzzz);}", 1, 28);
        fault("service s{" + many("int ", 8, "();") + "int a();}", 3, 10 + 8 * 8 + 4);
        // the first token counts, whatever stands behind it
        fault("failure a; failure a; ???", 4, 19);
        fault("failure a of b c ???", 5, 13);
    }

    private static void counts() {
        CHECK.part("count");
        RemoteDesks x = Make.withDesks(2);
        CHECK.due("kinds", x.count(0), 5);
        CHECK.due("records", x.count(1), 3);
        CHECK.due("services", x.count(2), 3);
        CHECK.due("desks", x.count(3), 2);
        x.object(0, 0, 0, 0, 0);
        CHECK.due("objects", x.count(4), 1);
        x.node(0);
        x.node(1);
        x.node(2);
        CHECK.due("nodes", x.count(5), 3);
        x.failure(1, 2, -1);
        CHECK.due("failures", x.count(6), 1);
        x.supply(0, 0, 5);
        x.carry(0, 1, 0, 1);
        x.carry(0, 1, 0, 1);
        CHECK.due("calls", x.count(7), 2);
        CHECK.due("slots", x.count(8), 2);
        x.tick(3);
        x.tick(2);
        CHECK.due("time", x.count(9), 5);
        CHECK.due("slots", x.count(8), 4);
        CHECK.due("lost", x.count(10), 0);
        for (int i = 0; i < 39; i++) {
            x.twice(0);
        }
        CHECK.due("slots", x.count(8), 40);
        CHECK.due("lost", x.count(10), 3);
    }

    /** The last kind, record, field, service, method and argument that a book can have. */
    private static void greatestBook() {
        CHECK.part("the greatest book");
        RemoteDesks x = new RemoteDesks();
        String text = "failure ka;failure kb of ka;failure kc;failure kd;failure ke;failure kf;failure kg;failure kh of kb;"
            + many("record r", 5, "{boolean a;}") + "record rf{int a;int b;int c;int d;int e;text f;}"
            + many("service s", 7, "{long a(long);}") + "service sh{" + many("int ", 7, "(int,int,int);")
            + "text h(int,rf,text);}";
        CHECK.due("describe", Make.describe(x, text), 8);
        x.desk();
        x.desk();
        x.node(5);
        x.node(4);
        Make.letters(x, "ab");
        CHECK.due("the last field", x.set(0, 5, 0), 1);
        CHECK.due("it", x.field(0, 5), 2);
        CHECK.due("one more", x.set(0, 6, 0), Check.UNKNOWN);
        CHECK.due("a field of another record", x.set(1, 0, 1), 1);
        CHECK.due("one more", x.set(1, 1, 0), Check.UNKNOWN);
        CHECK.due("object", x.object(0, 7, Make.ECHO, 0, 0), 0);
        CHECK.due("object", x.object(0, 6, Make.ECHO, 0, 0), 1);
        x.give(1, 0);
        x.hand(0, 1);
        x.hand(15, 0);
        Make.letters(x, "xyz");
        x.hand(4, 0);
        CHECK.due("other sorts", x.call(1, 0, 6), Check.NOT);
        CHECK.due("the last method", x.call(1, 0, 7), 0);
        Make.deliverAll(x);
        CHECK.due("its text", x.value(0), 3);
        CHECK.due("the node's text", x.letterAt(2, 5, 1), 'b');
        x.failure(8, 1, -1);
        x.object(0, 7, Make.FAIL, 0, 0);
        x.give(1, 2);
        CHECK.due("kind 8", x.knows(1, 8, false), 1);
        CHECK.due("kind 9", x.knows(1, 9, false), Check.UNKNOWN);
        for (int i = 0; i < 3; i++) {
            x.hand(0, i);
        }
        x.call(1, 2, 0);
        Make.deliverAll(x);
        CHECK.due("what kind 8 is of", x.tree(1, 0, 0), 2);
    }
}
