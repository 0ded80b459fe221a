/** Part 2 of the document and promises 1 to 6, one test for each sentence that names an edge. */
public final class BookEdgesTest {
    private static final Check CHECK = new Check();
    private static final int BLANKS = 0x20202020;
    private static final String[] RESERVED = {"failure", "of", "record", "service", "int", "long", "double", "boolean", "text"};
    /** A book with each form of the grammar, TOKEN by TOKEN. */
    private static final String[] TOKENS = ("failure a ; failure b of a ; record r { } record q { int a ; q b ; r c ; } "
        + "service s { } service t { int a ( ) ; s b ( t ) ; text c ( r , q ) ; q d ( int , long , boolean ) ; }").split(" ");

    public static void main(String[] args) {
        upTo1500Bytes();
        whatIsRefusedIsNotFed();
        highestByteFirst();
        keepsItsFirstBytes();
        emptyThen();
        onceInALife();
        mayBeTriedAgain();
        placeOfTheLatest();
        eachByteAlone();
        blanksAroundTokens();
        asLongAsCanBe();
        oneToEightLetters();
        noNames();
        noSorts();
        theEndIsOneToo();
        noTokenAnywhere();
        lastTakenAndFirstRefused();
        eachCountsItsOwn();
        leastOfSeveral();
        toldByAnyOfThese();
        toldInTheSame();
        notToldSo();
        aKindIsToldBehindItsSign();
        kindsFromOneOn();
        greatestCounts();
        whatOfCount();
        CHECK.end();
    }

    private static int feedBlanks(RemoteDesks x) {
        return x.feed(BLANKS, BLANKS, BLANKS, BLANKS, BLANKS);
    }

    private static void fault(String text, int fault, int place) {
        RemoteDesks x = new RemoteDesks();
        CHECK.due("describe " + text, Make.describe(x, text), -1 - fault);
        CHECK.due("place in " + text, x.place(), place);
    }

    private static void good(String text, int services) {
        RemoteDesks x = new RemoteDesks();
        CHECK.due("describe " + text, Make.describe(x, text), services);
        CHECK.due("place in " + text, x.place(), Check.NONE);
    }

    private static String many(String before, int n, String behind) {
        StringBuilder all = new StringBuilder();
        for (int i = 0; i < n; i++) {
            all.append(before).append((char) ('a' + i)).append(behind);
        }
        return all.toString();
    }

    /** "THE TAPE has up to 1500 bytes"; feed(): "how many it has. FULL." */
    private static void upTo1500Bytes() {
        CHECK.part("up to 1500 bytes");
        for (int room = 0; room <= 40; room++) {
            RemoteDesks x = new RemoteDesks();
            for (int i = 0; i < 75; i++) {
                feedBlanks(x);
            }
            CHECK.due("cut", x.cut(1500 - room), room);
            CHECK.due("feed, room for " + room, feedBlanks(x), room < 20 ? Check.FULL : 1520 - room);
        }
    }

    /** "What is refused changes nothing": not even a part of the twenty bytes comes. */
    private static void whatIsRefusedIsNotFed() {
        CHECK.part("a feed that is refused");
        RemoteDesks x = new RemoteDesks();
        for (int i = 0; i < 75; i++) {
            feedBlanks(x);
        }
        x.cut(1499);
        CHECK.due("feed", x.feed(0x3f3f3f3f, 0x3f3f3f3f, 0x3f3f3f3f, 0x3f3f3f3f, 0x3f3f3f3f), Check.FULL);
        CHECK.due("cut(1500)", x.cut(1500), Check.OUTSIDE);
        CHECK.due("cut(1499)", x.cut(1499), 0);
        CHECK.due("describe", x.describe(), 0);
    }

    /** "Twenty bytes come behind THE TAPE, each number's highest one first". */
    private static void highestByteFirst() {
        CHECK.part("the highest byte first");
        for (int place = 0; place < 20; place++) {
            int[] n = {BLANKS, BLANKS, BLANKS, BLANKS, BLANKS};
            int shift = 24 - place % 4 * 8;
            n[place / 4] = n[place / 4] & ~(255 << shift) | 255 << shift;
            RemoteDesks x = new RemoteDesks();
            feedBlanks(x);
            CHECK.due("feed", x.feed(n[0], n[1], n[2], n[3], n[4]), 40);
            CHECK.due("describe", x.describe(), -2);
            CHECK.due("place", x.place(), 20 + place);
        }
    }

    /** cut(): "THE TAPE keeps its first n bytes: how many went. OUTSIDE." */
    private static void keepsItsFirstBytes() {
        CHECK.part("cut");
        RemoteDesks x = new RemoteDesks();
        CHECK.due("cut(0) of an empty one", x.cut(0), 0);
        CHECK.due("cut(1) of an empty one", x.cut(1), Check.OUTSIDE);
        feedBlanks(x);
        CHECK.due("cut(21) of 20", x.cut(21), Check.OUTSIDE);
        CHECK.due("cut(-1)", x.cut(-1), Check.OUTSIDE);
        CHECK.due("cut(least)", x.cut(Integer.MIN_VALUE), Check.OUTSIDE);
        CHECK.due("cut(greatest)", x.cut(Integer.MAX_VALUE), Check.OUTSIDE);
        CHECK.due("cut(20) of 20", x.cut(20), 0);
        CHECK.due("cut(19) of 20", x.cut(19), 1);
        CHECK.due("cut(20) of 19", x.cut(20), Check.OUTSIDE);
        CHECK.due("cut(0) of 19", x.cut(0), 19);
        CHECK.due("cut(0) again", x.cut(0), 0);
        CHECK.due("feed", feedBlanks(x), 20);
    }

    /** "describe() takes it (it is empty then)". */
    private static void emptyThen() {
        CHECK.part("the tape is empty then");
        RemoteDesks x = new RemoteDesks();
        Make.describe(x, "record");
        CHECK.due("cut(1) behind a fault", x.cut(1), Check.OUTSIDE);
        CHECK.due("feed behind a fault", feedBlanks(x), 20);
        CHECK.due("a book of blanks", x.describe(), 0);
        CHECK.due("cut(1) behind a book", x.cut(1), Check.OUTSIDE);
        CHECK.due("feed behind a book", feedBlanks(x), 20);
    }

    /** "once in a life"; describe(): "NOT: there is a BOOK (THE TAPE stays)." */
    private static void onceInALife() {
        CHECK.part("once in a life");
        RemoteDesks x = new RemoteDesks();
        CHECK.due("an empty tape becomes the book", x.describe(), 0);
        CHECK.due("with an empty tape", x.describe(), Check.NOT);
        CHECK.due("with a good one", Make.describe(x, "service s{}"), Check.NOT);
        CHECK.due("no service", x.count(2), 0);
        CHECK.due("the tape stays", x.cut(11), 0);
        CHECK.due("with a wrong one", Make.describe(x, "?"), Check.NOT);
        CHECK.due("place", x.place(), Check.NONE);
        CHECK.due("the tape stays", x.cut(0), 1);
    }

    /** "or has a FAULT (then it may be tried again)"; describe(): "-1 less the number of its FAULT (-2 .. -6)". */
    private static void mayBeTriedAgain() {
        CHECK.part("tried again");
        RemoteDesks x = new RemoteDesks();
        String[] texts = {"?", "of", "service s{int a(int,int,int,int);}", "record a{}record a{}", "failure a of b;"};
        for (int i = 0; i < texts.length; i++) {
            CHECK.due("describe " + texts[i], Make.describe(x, texts[i]), -2 - i);
            CHECK.due("no kind but 0", x.count(0), 1);
            CHECK.due("no record", x.count(1), 0);
            CHECK.due("no service", x.count(2), 0);
            CHECK.due("node(0)", x.node(0), Check.UNKNOWN);
        }
        CHECK.due("describe", Make.describe(x, "record a{}service s{}"), 1);
        CHECK.due("node(0)", x.node(0), 0);
        CHECK.due("node(1)", x.node(1), Check.UNKNOWN);
    }

    /** place(): "The byte of the FAULT of the latest describe() that was not refused; NONE." */
    private static void placeOfTheLatest() {
        CHECK.part("the latest describe");
        RemoteDesks x = new RemoteDesks();
        CHECK.due("none yet", x.place(), Check.NONE);
        Make.describe(x, "    ?");
        CHECK.due("the first", x.place(), 4);
        Make.tape(x, "?");
        CHECK.due("it stays till describe()", x.place(), 4);
        x.describe();
        CHECK.due("byte 0", x.place(), 0);
        Make.describe(x, "record r{");
        CHECK.due("the end", x.place(), 9);
        Make.describe(x, "record r{}");
        CHECK.due("a book", x.place(), Check.NONE);
        Make.describe(x, "   ?");
        CHECK.due("one that was refused", x.place(), Check.NONE);
        RemoteDesks y = new RemoteDesks();
        CHECK.due("describe", Make.describe(y, " ".repeat(1493) + "failure"), -3);
        CHECK.due("the end of the longest tape", y.place(), 1500);
    }

    /** "WORDS: letters a to z", "SIGNS { } ( ) , ;", "blanks (32, 10)": what each of the 256 bytes is. */
    private static void eachByteAlone() {
        CHECK.part("each byte alone");
        for (int b = 0; b < 256; b++) {
            boolean blank = b == 32 || b == 10;
            boolean token = b >= 'a' && b <= 'z' || "{}(),;".indexOf(b) >= 0;
            RemoteDesks x = new RemoteDesks();
            x.feed(b << 24, 0, 0, 0, 0);
            x.cut(1);
            CHECK.due("describe byte " + b, x.describe(), blank ? 0 : token ? -3 : -2);
            CHECK.due("place of byte " + b, x.place(), blank ? Check.NONE : 0);
            // as a part of a NAME: only a letter goes on with it, only a blank or ; ends it well
            RemoteDesks y = new RemoteDesks();
            CHECK.due("behind a word, byte " + b, Make.describe(y, "failure a" + (char) b + ";"),
                b >= 'a' && b <= 'z' || blank ? 0 : token ? -3 : -2);
            CHECK.due("its place", y.place(), b >= 'a' && b <= 'z' || blank ? Check.NONE : b == ';' ? 10 : 9);
        }
    }

    /** "blanks (32, 10) between them or none". */
    private static void blanksAroundTokens() {
        CHECK.part("blanks between tokens");
        String[] gaps = {" ", "\n", "  ", "\n\n", " \n ", "\n \n"};
        for (String gap : gaps) {
            good(gap + String.join(gap, TOKENS) + gap, 2);
        }
        StringBuilder tight = new StringBuilder();
        for (int i = 0; i < TOKENS.length; i++) {
            boolean letters = i > 0 && TOKENS[i - 1].charAt(0) <= 'z' && TOKENS[i - 1].charAt(0) >= 'a';
            boolean words = letters && TOKENS[i].charAt(0) <= 'z' && TOKENS[i].charAt(0) >= 'a';
            tight.append(words ? " " : "").append(TOKENS[i]);
        }
        good(tight.toString(), 2);
    }

    /** "TOKENS, as long as can be". */
    private static void asLongAsCanBe() {
        CHECK.part("as long as can be");
        fault("failurea;", 2, 0);
        fault("recordr{}", 2, 0);
        fault("service s{inta();}", 5, 10);
        fault("record r{texta;}", 5, 9);
        fault("failure a ofb;", 2, 10);
        good("failure ofa;failure b of ofa;", 0);
        good("failure failures;record records{int texts;}service ints{int longs();}", 1);
    }

    /** "1 to 8 of them"; "What is no TOKEN begins at its first byte (a row of 9 letters and more is none)." */
    private static void oneToEightLetters() {
        CHECK.part("1 to 8 letters");
        for (int n = 1; n <= 20; n++) {
            String word = "z".repeat(n);
            if (n <= 8) {
                good("failure " + word + ";", 0);
                fault("failure a; " + word, 2, 11);
            } else {
                fault("failure " + word + ";", 1, 8);
                fault("failure a; " + word, 1, 11);
            }
        }
        fault("abcdefgh".repeat(187) + "abcd", 1, 0);
        fault("failure failurefailure;", 1, 8);
        // 8 letters, then something else: two tokens
        fault("failure abcdefgh1;", 1, 16);
        fault("failure abcdefgh i;", 2, 17);
        // all 8 letters tell one name from another
        good("failure abcdefgh;failure abcdefgi;failure bbcdefgh;failure abcdefg;", 0);
        fault("failure abcdefgh;failure abcdefgi;failure abcdefgh;", 4, 42);
    }

    /** "NAMES are WORDS that are none of failure, of, record, service, int, long, double, boolean, text." */
    private static void noNames() {
        CHECK.part("words that are no names");
        String[] before = {"failure ", "failure k;failure a of ", "record ", "record r{int ", "service ", "service s{int "};
        for (String word : RESERVED) {
            for (String text : before) {
                fault(text + word + " ?", 2, text.length());
            }
        }
        for (String word : new String[] {"failur", "o", "off", "recor", "in", "lon", "doubl", "boolea", "tex", "texts"}) {
            good("failure " + word + ";record r{int " + word + ";}service s{int " + word + "();}", 1);
        }
    }

    /** "SORT = 'int' | 'long' | 'double' | 'boolean' | 'text' | NAME". */
    private static void noSorts() {
        CHECK.part("words that are sorts, or not");
        String[] before = {"record r{", "service s{", "service s{int a(", "service s{int a(int,", "service s{int a(int,int,"};
        String[] behind = {" a;}", " a();}", ");}", ");}", ");}"};
        for (int i = 0; i < before.length; i++) {
            for (int w = 0; w < RESERVED.length; w++) {
                String text = before[i] + RESERVED[w] + behind[i];
                if (w < 4) {
                    fault(text, 2, before[i].length());
                } else {
                    good(text, i == 0 ? 0 : 1);
                }
            }
            fault(before[i] + "zz" + behind[i], 5, before[i].length());
        }
    }

    /** "(the end is one, too, at the text's length)": a book that is cut off behind any TOKEN. */
    private static void theEndIsOneToo() {
        CHECK.part("the end");
        int depth = 0;
        StringBuilder text = new StringBuilder();
        boolean whole = true;
        int services = 0;
        for (String token : TOKENS) {
            text.append(token);
            depth += token.equals("{") ? 1 : token.equals("}") ? -1 : 0;
            whole = depth == 0 && (token.equals("}") || token.equals(";"));
            services += token.equals("service") ? 1 : 0;
            if (whole) {
                good(text.toString(), services);
            } else {
                fault(text.toString(), 2, text.length());
                fault(text + " \n", 2, text.length() + 2);
            }
            text.append(' ');
        }
        CHECK.due("the last is whole", whole ? 1 : 0, 1);
        CHECK.due("services", services, 2);
    }

    /** "1 it is none": wherever it stands, it is that FAULT and no other. */
    private static void noTokenAnywhere() {
        CHECK.part("no token");
        String good = String.join(" ", TOKENS);
        int at = 0;
        for (String token : TOKENS) {
            fault(good.substring(0, at) + "?" + good.substring(at), 1, at);
            fault(good.substring(0, at) + "abcdefghi " + good.substring(at), 1, at);
            at += token.length() + 1;
        }
        fault(good + "?", 1, good.length());
        fault(good + " abcdefghi", 1, good.length() + 1);
    }

    /** "3 it is more than 8 kinds, 6 records, 8 services, 6 fields, 8 methods (each at its NAME), 3 SORTS (at that SORT)". */
    private static void lastTakenAndFirstRefused() {
        CHECK.part("the last taken and the first refused");
        String[] before = {"failure ", "record ", "service ", "record r{", "service s{"};
        String[] each = {"failure ", "record ", "service ", "int ", "int "};
        String[] behind = {";", "{}", "{}", ";", "();"};
        int[] most = {8, 6, 8, 6, 8};
        for (int i = 0; i < each.length; i++) {
            boolean inside = i > 2;
            String start = inside ? before[i] : "";
            String end = inside ? "}" : "";
            good(start + many(each[i], most[i], behind[i]) + end, i == 2 ? 8 : i == 4 ? 1 : 0);
            String full = start + many(each[i], most[i], behind[i]);
            fault(full + each[i] + "zz" + behind[i] + end, 3, full.length() + each[i].length());
            fault(full + each[i] + "zz", 3, full.length() + each[i].length());
        }
        String arguments = "service s{int a(";
        for (int n = 0; n <= 3; n++) {
            good(arguments + "int,int,int".substring(0, Math.max(0, 4 * n - 1)) + ");}", 1);
        }
        fault(arguments + "int,int,int,int);}", 3, 28);
        fault(arguments + "int,int,int,text", 3, 28);
        fault(arguments + "int,int,int,s,int);}", 3, 28);
    }

    /** Each record has its own 6 fields, each service its own 8 methods, each method its own 3 SORTS. */
    private static void eachCountsItsOwn() {
        CHECK.part("each counts its own");
        String six = many("int ", 6, ";");
        String eight = many("int ", 8, "(int,int,int);");
        good("record r{" + six + "}record q{" + six + "}record p{" + six + "}", 0);
        good("service r{" + eight + "}service q{" + eight + "}", 2);
        String second = "record r{" + six + "}record q{" + six;
        fault(second + "int g;}", 3, second.length() + 4);
        second = "service r{" + eight + "}service q{" + eight;
        fault(second + "int i();}", 3, second.length() + 4);
        good(many("failure k", 8, ";") + many("record r", 6, "{}") + many("service s", 8, "{}"), 8);
    }

    /** "of these the least". */
    private static void leastOfSeveral() {
        CHECK.part("the least");
        // more than 8, and told already
        fault(many("failure ", 8, ";") + "failure h;", 3, 88);
        // more than 6, and told already
        fault("record r{" + many("int ", 6, ";") + "int f;}", 3, 49);
        // more than 3, and not told
        fault("service s{int a(int,int,int,nil);}", 3, 28);
        // more than 3, and told as a kind alone
        fault("failure k;service s{int a(int,int,int,k);}", 3, 38);
        // more than 8, and cannot stand there
        fault(many("failure ", 8, ";") + "failure of;", 2, 88);
        fault(many("record ", 6, "{}") + "record text{}", 2, 67);
        fault(many("service ", 8, "{}") + "service;", 2, 95);
        // more than 8, and none
        fault(many("failure ", 8, ";") + "failure ABC;", 1, 88);
        fault("service s{int a(int,int,int,abcdefghi);}", 1, 28);
    }

    /** "4 a NAME that is told already: of a kind, record, service by any of these". */
    private static void toldByAnyOfThese() {
        CHECK.part("told by any of these");
        String[] first = {"failure a;", "record a{}", "service a{}"};
        String[] second = {"failure a;", "record a{}", "service a{}"};
        for (String one : first) {
            for (String two : second) {
                fault(one + two, 4, one.length() + two.indexOf('a', 5));
                fault(one + "failure b;" + two, 4, one.length() + 10 + two.indexOf('a', 5));
            }
        }
        // the NAMES of fields and methods are none of these
        good("record r{int a;}failure a;", 0);
        good("service s{int a();}record a{}service b{a a(a);}", 2);
    }

    /** "of a field, a method in the same record, service". */
    private static void toldInTheSame() {
        CHECK.part("told in the same");
        fault("record r{int a;int a;}", 4, 19);
        fault("record r{" + many("int ", 5, ";") + "text a;}", 4, 44);
        fault("record r{" + many("int ", 5, ";") + "text e;}", 4, 44);
        fault("service s{int a();int a(int);}", 4, 22);
        fault("service s{" + many("int ", 7, "();") + "text a();}", 4, 71);
        fault("service s{" + many("int ", 7, "();") + "text g();}", 4, 71);
        good("record r{int a;}record q{int a;}service s{int a();}service t{int a();}", 2);
        good("failure a;record r{int a;int r;}service s{int a();int r();int s();}", 1);
    }

    /** "5 a kind's NAME behind 'of', or a SORT, that is not told so." */
    private static void notToldSo() {
        CHECK.part("not told so");
        String told = "failure k;record r{}service s{}";
        fault(told + "failure b of r;", 5, told.length() + 13);
        fault(told + "failure b of s;", 5, told.length() + 13);
        fault(told + "failure b of zz;", 5, told.length() + 13);
        good(told + "failure b of k;", 1);
        fault(told + "record q{k a;}", 5, told.length() + 9);
        fault(told + "service q{k a();}", 5, told.length() + 10);
        fault(told + "service q{int a(k);}", 5, told.length() + 16);
        good(told + "record q{r a;s b;q c;}service p{r a(s,q,p);p b();}", 2);
        // told only behind it
        fault("record r{s a;}service s{}", 5, 9);
        fault("record r{q a;}record q{}", 5, 9);
        fault("service s{t a();}service t{}", 5, 10);
        fault("failure b of k;failure k;", 5, 13);
        // a field or method is no SORT
        fault("record r{int a;a b;}", 5, 15);
        fault("service s{int a();a b();}", 5, 18);
    }

    /** "so a kind may not be of itself: it is told only behind its ;". */
    private static void aKindIsToldBehindItsSign() {
        CHECK.part("a kind of itself");
        fault("failure a of a;", 5, 13);
        good("failure a;failure b of a;", 0);
        fault("failure a;failure b of b;", 5, 23);
        fault("failure a of", 2, 12);
    }

    /** "THE BOOK has the kinds, numbered from 1 on; kind 0 ... needs no NAME." */
    private static void kindsFromOneOn() {
        CHECK.part("kinds from 1 on");
        RemoteDesks x = new RemoteDesks();
        Make.describe(x, many("failure ", 8, ";"));
        CHECK.due("count(0)", x.count(0), 9);
        CHECK.due("kind 0", x.failure(0, 0, -1), 0);
        CHECK.due("kind 8", x.failure(8, 0, -1), 1);
        CHECK.due("kind 9", x.failure(9, 0, -1), Check.UNKNOWN);
        CHECK.due("kind -1", x.failure(-1, 0, -1), Check.UNKNOWN);
        RemoteDesks y = new RemoteDesks();
        CHECK.due("kind 0 without a book", y.failure(0, 0, -1), 0);
        CHECK.due("kind 1 without a book", y.failure(1, 0, -1), Check.UNKNOWN);
    }

    /** count(): the greatest numbers that there can be. */
    private static void greatestCounts() {
        CHECK.part("the greatest counts");
        RemoteDesks x = new RemoteDesks();
        Make.describe(x, many("failure k", 8, ";") + many("record r", 6, "{}") + many("service s", 8, "{}"));
        CHECK.due("no desk yet", x.count(3), 0);
        for (int i = 0; i < 61; i++) {
            x.desk();
            x.object(0, 7, Make.ECHO, 0, 0);
            x.node(5);
            x.failure(8, 0, -1);
        }
        x.supply(0, 0, 100);
        for (int i = 0; i < 61; i++) {
            x.carry(0, 1, 0, 1);
        }
        x.tick(4);
        int[] due = {9, 6, 8, 8, 24, 60, 16, 60, 40, 4, 80};
        for (int what = 0; what < due.length; what++) {
            CHECK.due("count(" + what + ")", x.count(what), due[what]);
        }
    }

    /** count(): "What = 0 .. 10. OUTSIDE." */
    private static void whatOfCount() {
        CHECK.part("what of count");
        RemoteDesks x = new RemoteDesks();
        int[] outside = {-1, -2, 11, 12, Integer.MIN_VALUE, Integer.MAX_VALUE, -100001};
        for (int what : outside) {
            CHECK.due("count(" + what + ")", x.count(what), Check.OUTSIDE);
        }
        CHECK.due("count(0) without a book", x.count(0), 1);
        for (int what = 1; what <= 10; what++) {
            CHECK.due("count(" + what + ") of a new object", x.count(what), 0);
        }
    }
}
