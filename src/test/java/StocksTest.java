/** Promises 36 to 38: stocks (part 8). */
public final class StocksTest {
    private static final Check CHECK = new Check();

    public static void main(String[] args) {
        supply();
        stockRefusals();
        carryRefusals();
        sixtyCalls();
        carried();
        articles();
        doubled();
        aged();
        agedBehindTheDeed();
        givenUp();
        forgotten();
        stockAbove();
        CHECK.end();
    }

    private static void supply() {
        CHECK.part("supply");
        RemoteDesks x = Make.withDesks(2);
        CHECK.due("desk 2", x.supply(2, 0, 1), Check.UNKNOWN);
        CHECK.due("desk -1", x.supply(-1, 9, 0), Check.UNKNOWN);
        CHECK.due("article -1", x.supply(0, -1, 1), Check.OUTSIDE);
        CHECK.due("article 4", x.supply(0, 4, 1), Check.OUTSIDE);
        CHECK.due("n 0", x.supply(0, 0, 0), Check.OUTSIDE);
        CHECK.due("n 1001", x.supply(0, 0, 1001), Check.OUTSIDE);
        CHECK.due("supply", x.supply(0, 3, 1), 1);
        CHECK.due("supply", x.supply(0, 3, 1000), 1001);
        CHECK.due("another article", x.stock(0, 2), 0);
        CHECK.due("another desk", x.stock(1, 3), 0);
        for (int i = 1; i <= 30; i++) {
            CHECK.due("supply", x.supply(1, 0, 1000), 1000 * i);
        }
        CHECK.due("30001", x.supply(1, 0, 1), Check.FULL);
        CHECK.due("outside ahead of full", x.supply(1, 0, 1001), Check.OUTSIDE);
        CHECK.due("stock", x.stock(1, 0), 30000);
        x.restart(1);
        CHECK.due("it stays", x.stock(1, 0), 30000);
    }

    private static void stockRefusals() {
        CHECK.part("stock");
        RemoteDesks x = Make.withDesks(1);
        CHECK.due("desk 1", x.stock(1, 0), Check.UNKNOWN);
        CHECK.due("desk -2", x.stock(-2, 0), Check.UNKNOWN);
        CHECK.due("unknown first", x.stock(1, 9), Check.UNKNOWN);
        CHECK.due("article -1", x.stock(0, -1), Check.OUTSIDE);
        CHECK.due("article 4", x.stock(0, 4), Check.OUTSIDE);
        CHECK.due("moved of article 4", x.stock(-1, 4), Check.OUTSIDE);
        CHECK.due("moved of article -1", x.stock(-1, -1), Check.OUTSIDE);
        CHECK.due("stock", x.stock(0, 0), 0);
        CHECK.due("moved", x.stock(-1, 3), 0);
    }

    private static void carryRefusals() {
        CHECK.part("carry's refusals");
        RemoteDesks x = Make.withDesks(2);
        x.supply(0, 1, 1000);
        x.supply(0, 1, 1000);
        CHECK.due("desk 2", x.carry(2, 0, 1, 1), Check.UNKNOWN);
        CHECK.due("desk -1", x.carry(-1, 0, 1, 1), Check.UNKNOWN);
        CHECK.due("to 2", x.carry(0, 2, 1, 1), Check.UNKNOWN);
        CHECK.due("to -1", x.carry(0, -1, 9, 1), Check.UNKNOWN);
        CHECK.due("article 4", x.carry(0, 1, 4, 1), Check.OUTSIDE);
        CHECK.due("article -1", x.carry(0, 1, -1, 1), Check.OUTSIDE);
        CHECK.due("n 0", x.carry(0, 1, 1, 0), Check.OUTSIDE);
        CHECK.due("n 1001", x.carry(0, 1, 1, 1001), Check.OUTSIDE);
        CHECK.due("outside first", x.carry(0, 0, 1, 0), Check.OUTSIDE);
        CHECK.due("the same desk", x.carry(0, 0, 1, 1), Check.NOT);
        CHECK.due("none there", x.carry(0, 1, 0, 1), Check.NOT);
        CHECK.due("none there", x.carry(1, 0, 1, 1), Check.NOT);
        CHECK.due("stock", x.stock(0, 1), 2000);
        CHECK.due("moved", x.stock(-1, 1), 0);
        CHECK.due("calls", x.count(7), 0);
        CHECK.due("carry", x.carry(0, 1, 1, 1000), 0);
        CHECK.due("carry", x.carry(0, 1, 1, 999), 1);
        CHECK.due("too few", x.carry(0, 1, 1, 2), Check.NOT);
        CHECK.due("the last one", x.carry(0, 1, 1, 1), 2);
        CHECK.due("stock", x.stock(0, 1), 0);
        CHECK.due("moved", x.stock(-1, 1), 2000);
    }

    private static void sixtyCalls() {
        CHECK.part("60 calls");
        RemoteDesks x = Make.withDesks(2);
        x.supply(0, 0, 100);
        for (int i = 0; i < 60; i++) {
            CHECK.due("carry", x.carry(0, 1, 0, 1), i);
        }
        CHECK.due("carry 60", x.carry(0, 1, 0, 1), Check.FULL);
        CHECK.due("not first", x.carry(0, 1, 0, 41), Check.NOT);
        CHECK.due("stock", x.stock(0, 0), 40);
        CHECK.due("moved", x.stock(-1, 0), 60);
        CHECK.due("slots", x.count(8), 40);
        CHECK.due("lost", x.count(10), 20);
        CHECK.due("slots sent", x.audit(0, 0), 60);
    }

    private static void carried() {
        CHECK.part("carried");
        RemoteDesks x = Make.withDesks(4);
        x.supply(3, 2, 900);
        x.supply(1, 2, 5);
        x.restart(1);
        x.hand(0, 1);
        CHECK.due("carry", x.carry(3, 1, 2, 300), 0);
        CHECK.due("the hand is not touched", x.open(), 1);
        int[] request = {3 * 16 + 1, 0, 0, 0, 1, 250, 2, 1, 1, 44, -1};
        for (int k = 0; k < request.length; k++) {
            CHECK.due("slot(0, " + k + ")", x.slot(0, k), request[k]);
        }
        int[] about = {3, -1, 2, -1, 1, 0};
        for (int what = 0; what < about.length; what++) {
            CHECK.due("about(0, " + what + ")", x.about(0, what), about[what]);
        }
        CHECK.due("stock", x.stock(3, 2), 600);
        CHECK.due("moved", x.stock(-1, 2), 300);
        CHECK.due("not there yet", x.stock(1, 2), 5);
        x.through(0);
        CHECK.due("there", x.stock(1, 2), 305);
        CHECK.due("moved", x.stock(-1, 2), 0);
        CHECK.due("begun", x.about(0, 5), 1);
        CHECK.due("begun there", x.audit(1, 4), 1);
        int[] answer = {16 + 3, 1, 0, 0, 1, 0, 0, 0, 1, 49, -1};
        for (int k = 0; k < answer.length; k++) {
            CHECK.due("slot(0, " + k + ")", x.slot(0, k), answer[k]);
        }
        CHECK.due("state", x.state(0), 0);
        Make.deliverAll(x);
        CHECK.due("state", x.state(0), 1);
        CHECK.due("value", x.value(0), 305);
        CHECK.due("stock", x.stock(3, 2), 600);
    }

    private static void articles() {
        CHECK.part("articles");
        RemoteDesks x = Make.withDesks(3);
        x.object(0, 0, Make.COUNT, 0, 0);
        x.give(1, 0);
        for (int a = 0; a < 4; a++) {
            x.supply(0, a, 10 + a);
            x.carry(0, 1 + a % 2, a, 1 + a);
        }
        x.hand(0, 3);
        x.hand(0, 3);
        x.call(1, 0, 0);
        for (int a = 0; a < 4; a++) {
            CHECK.due("stock", x.stock(0, a), 9);
            CHECK.due("moved", x.stock(-1, a), 1 + a);
        }
        x.through(2);
        CHECK.due("moved", x.stock(-1, 2), 0);
        CHECK.due("moved", x.stock(-1, 3), 4);
        CHECK.due("there", x.stock(1, 2), 3);
        Make.deliverAll(x);
        for (int a = 0; a < 4; a++) {
            CHECK.due("there", x.stock(1 + a % 2, a), 1 + a);
            CHECK.due("value", x.value(a), 1 + a);
        }
    }

    private static void doubled() {
        CHECK.part("doubled");
        RemoteDesks x = Make.withDesks(2);
        x.supply(0, 0, 10);
        x.carry(0, 1, 0, 4);
        x.twice(0);
        x.tick(8);
        Make.deliverAll(x);
        CHECK.due("once", x.stock(1, 0), 4);
        CHECK.due("stock", x.stock(0, 0), 6);
        CHECK.due("state", x.state(0), 1);
        CHECK.due("sent", x.about(0, 4), 3);
        CHECK.due("shelf", x.audit(1, 2), 0);
    }

    private static void aged() {
        CHECK.part("aged");
        RemoteDesks x = Make.withDesks(2);
        x.supply(0, 0, 10);
        x.carry(0, 1, 0, 4);
        x.restart(1);
        x.through(0);
        CHECK.due("they are moved still", x.stock(-1, 0), 4);
        CHECK.due("stock", x.stock(0, 0), 6);
        x.through(0);
        CHECK.due("state", x.state(0), 4);
        CHECK.due("they went back", x.stock(0, 0), 10);
        CHECK.due("moved", x.stock(-1, 0), 0);
        CHECK.due("there", x.stock(1, 0), 0);
        x.carry(0, 1, 0, 4);
        CHECK.due("the age as it is now", x.slot(x.count(8) - 1, 7), 1);
        Make.deliverAll(x);
        CHECK.due("state", x.state(1), 1);
        CHECK.due("there", x.stock(1, 0), 4);
        x.carry(1, 0, 0, 1);
        x.restart(0);
        CHECK.due("one is moved", x.stock(-1, 0), 1);
        Make.deliverAll(x);
        CHECK.due("it went back", x.stock(1, 0), 4);
        CHECK.due("none is moved", x.stock(-1, 0), 0);
    }

    private static void agedBehindTheDeed() {
        CHECK.part("aged behind the deed");
        RemoteDesks x = Make.withDesks(2);
        x.supply(0, 0, 10);
        x.carry(0, 1, 0, 4);
        x.through(0);
        x.lose(0);
        x.restart(1);
        x.tick(4);
        Make.deliverAll(x);
        CHECK.due("state", x.state(0), 4);
        CHECK.due("they are there", x.stock(1, 0), 4);
        CHECK.due("and not back", x.stock(0, 0), 6);
        CHECK.due("moved", x.stock(-1, 0), 0);
    }

    private static void givenUp() {
        CHECK.part("given up");
        RemoteDesks x = Make.withDesks(2);
        x.supply(0, 0, 10);
        x.carry(0, 1, 0, 4);
        x.tick(36);
        CHECK.due("state", x.state(0), 3);
        CHECK.due("they stay moved", x.stock(-1, 0), 4);
        CHECK.due("stock", x.stock(0, 0), 6);
        x.through(0);
        CHECK.due("there at last", x.stock(1, 0), 4);
        CHECK.due("moved", x.stock(-1, 0), 0);
        Make.deliverAll(x);
        CHECK.due("state", x.state(0), 3);
        CHECK.due("value", x.value(0), Check.NONE);
        x.carry(0, 1, 0, 1);
        x.tick(36);
        x.restart(1);
        Make.deliverAll(x);
        CHECK.due("state", x.state(1), 3);
        CHECK.due("they stay moved", x.stock(-1, 0), 1);
    }

    private static void forgotten() {
        CHECK.part("forgotten");
        RemoteDesks x = Make.withDesks(2);
        x.supply(0, 0, 10);
        x.carry(0, 1, 0, 4);
        x.carry(0, 1, 0, 3);
        x.restart(0);
        CHECK.due("state", x.state(0), 5);
        CHECK.due("they stay moved", x.stock(-1, 0), 7);
        CHECK.due("stock", x.stock(0, 0), 3);
        x.through(0);
        CHECK.due("there at last", x.stock(1, 0), 4);
        CHECK.due("moved", x.stock(-1, 0), 3);
        x.restart(1);
        Make.deliverAll(x);
        CHECK.due("state", x.state(1), 5);
        CHECK.due("an aged answer to one forgotten", x.stock(-1, 0), 3);
        CHECK.due("stock", x.stock(0, 0), 3);
    }

    private static void stockAbove() {
        CHECK.part("a stock above 30000");
        RemoteDesks x = Make.withDesks(2);
        for (int i = 0; i < 30; i++) {
            x.supply(1, 0, 1000);
        }
        x.supply(0, 0, 1000);
        x.carry(0, 1, 0, 1000);
        Make.deliverAll(x);
        CHECK.due("only supply() has that bound", x.stock(1, 0), 31000);
        CHECK.due("value", x.value(0), 31000);
        CHECK.due("supply", x.supply(1, 0, 1), Check.FULL);
    }
}
