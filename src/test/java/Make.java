/** Makes objects for the tests. */
final class Make {
    /** 4 kinds, 3 records, 3 services. */
    static final String BOOK = "failure bad; failure worse of bad; failure worst of worse; failure odd;\n"
        + "record pair { int a; long b; double c; boolean d; text e; pair next; }\n"
        + "service plain { int add(int, int); long sum(int, long, boolean); double real(double);\n"
        + " boolean is(boolean); text say(text); pair pass(pair); plain who(plain); int nil(); }\n"
        + "record box { plain p; pair q; int n; }\n"
        + "service other { box open(box); other which(plain, other); text tell(pair, box);\n"
        + " pair both(pair, pair, box); plain swap(plain, other); int add(int, int); double nil(); boolean say(int); }\n"
        + "record empty { }\n"
        + "service lone { lone self(lone); boolean truth(int); double bits(long); pair none(int); }";

    static final int ECHO = 0, COUNT = 1, FAIL = 2, KEEP = 3, RAISE = 4, RELAY = 5;
    static final int PAIR = 10, BOX = 11, EMPTY = 12, PLAIN = 20, OTHER = 21, LONE = 22;

    /** A record whose node has 26 bytes in a message, those of its text, and what its last field has; see row(). */
    static final String ROW_RECORD = "record r{long a;long b;long c;text t;r n;}";
    static final int ROW_NODES = 8;

    private Make() {
    }

    /** Puts a text onto the tape. */
    static void tape(RemoteDesks x, String text) {
        int had = x.cut(0);
        if (had < 0) {
            throw new IllegalStateException("cut");
        }
        int length = text.length();
        for (int i = 0; i < length; i += 20) {
            int[] n = new int[5];
            for (int k = 0; k < 20; k++) {
                int c = i + k < length ? text.charAt(i + k) : ' ';
                n[k / 4] = n[k / 4] << 8 | c & 255;
            }
            x.feed(n[0], n[1], n[2], n[3], n[4]);
        }
        x.cut(length);
    }

    static int describe(RemoteDesks x, String text) {
        tape(x, text);
        return x.describe();
    }

    /** A new object with BOOK and some desks. */
    static RemoteDesks withDesks(int desks) {
        RemoteDesks x = new RemoteDesks();
        if (describe(x, BOOK) != 3) {
            throw new IllegalStateException("the book has a fault at " + x.place());
        }
        for (int i = 0; i < desks; i++) {
            x.desk();
        }
        return x;
    }

    /** Lets all slots arrive, oldest first, until none is on the way. */
    static void deliverAll(RemoteDesks x) {
        for (int i = 0; i < 1000 && x.count(8) > 0; i++) {
            x.through(0);
        }
    }

    /** The bytes of slot i as text: numbers with blanks between them. */
    static String bytes(RemoteDesks x, int i) {
        StringBuilder all = new StringBuilder();
        int b = x.slot(i, 0);
        for (int k = 1; b >= 0; k++) {
            all.append(k == 1 ? "" : " ").append(b);
            b = x.slot(i, k);
        }
        return all.toString();
    }

    static void letters(RemoteDesks x, String text) {
        for (int i = 0; i < text.length(); i++) {
            x.letter(text.charAt(i));
        }
    }

    /** Makes the first nodes, of ROW_RECORD, the last of which has so many bytes in a message: 209 at the least. */
    static void row(RemoteDesks x, int bytes) {
        int letters = bytes - 26 * ROW_NODES - 1;
        for (int i = 0; i < ROW_NODES; i++) {
            x.node(0);
            x.set(i, 4, i - 1);
            int own = Math.min(16, Math.max(0, letters));
            letters -= own;
            letters(x, "0123456789abcdef".substring(0, own));
            x.set(i, 3, 0);
        }
    }
}
