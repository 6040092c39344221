/** Promises 15 to 24: claim, audit and the questions. */
public final class ClaimsTest {
    private static final int MIN = Integer.MIN_VALUE, MAX = Integer.MAX_VALUE;

    public static void main(String[] args) {
        claim();
        claimOfHeirs();
        claimRefused();
        audit();
        auditRefused();
        year();
        about();
        aboutRefused();
        due();
        dueOfNobodys();
        purses();
        finesAndFinders();
        Check.end("ClaimsTest");
    }

    private static Escheatry paid(int... amounts) {
        Escheatry x = new Escheatry();
        x.holder(4);
        for (int s = 0; s < 4; s++) {
            x.owner(s);
        }
        for (int amount : amounts) {
            Check.tell(x, Check.WAGE, 0, 0, amount);
        }
        return x;
    }

    private static void claim() {
        Escheatry x = paid(49, 19, 9, 1000, 5);
        x.send(3);
        x.pass(1);
        Check.same("15 purse", x.purse(0), 1080);
        Check.same("15 with a finder", x.claim(0, 0, true), 45);
        Check.same("15 how", x.about(0, 0), 2);
        Check.same("15 what it was paid", x.about(0, 5), 49);
        Check.same("15 the purse pays all", x.purse(0), 1031);
        Check.same("15 without a finder", x.claim(0, 1, false), 19);
        Check.same("15 a tenth of little", x.claim(0, 2, true), 9);
        Check.same("15 finders", x.finders(), 4);
        Check.same("15 what letters cost is lost", x.claim(0, 3, true), 899);
        Check.same("15 finders", x.finders(), 103);
        Check.same("15 purse", x.purse(0), 5);
        x.pass(20);
        x.pass(20);
        Check.same("15 ever", x.claim(0, 4, false), 5);
        Check.same("15 the state stays", x.about(4, 3), 0);
        Check.same("15 purse", x.purse(0), 0);
        Escheatry y = paid(1);
        y.send(0);
        y.pass(1);
        Check.same("15 nothing", y.claim(0, 0, true), 0);
        Check.same("15 claimed", y.about(0, 0), 2);
    }

    private static void claimOfHeirs() {
        Escheatry x = paid(10, 20, 30);
        x.pass(1);
        x.heir(0, 1);
        x.heir(1, 2);
        Check.refused("15 an heir of one who lives", Check.STATE, x, () -> x.claim(1, 0, false));
        x.death(0);
        Check.refused("15 a dead owner", Check.STATE, x, () -> x.claim(0, 0, false));
        Check.refused("15 an heir of an heir", Check.STATE, x, () -> x.claim(2, 0, false));
        Check.refused("15 no heir", Check.STATE, x, () -> x.claim(3, 0, false));
        Check.same("15 an heir", x.claim(1, 0, true), 9);
        x.death(1);
        Check.refused("15 a dead heir", Check.STATE, x, () -> x.claim(1, 1, false));
        Check.refused("15 an heir of a dead heir", Check.STATE, x, () -> x.claim(2, 1, false));
        x.heir(0, 3);
        Check.same("15 another heir, told late", x.claim(3, 1, false), 20);
        x.heir(3, 2);
        Check.refused("15 an heir of an heir", Check.STATE, x, () -> x.claim(2, 2, false));
        Check.same("15 left", x.purse(0), 30);
    }

    private static void claimRefused() {
        Escheatry x = paid(10, 100);
        Check.tell(x, Check.WAGE, 0, -1, 10);
        x.pass(1);
        for (int none : new int[] {-1, 4, MIN, MAX}) {
            Check.refused("15 owner", Check.INDEX, x, () -> x.claim(none, 0, true));
        }
        for (int none : new int[] {-1, 3, MIN, MAX}) {
            Check.refused("15 item", Check.INDEX, x, () -> x.claim(0, none, true));
        }
        Check.refused("15 held", Check.STATE, x, () -> x.claim(0, 1, true));
        Check.refused("15 another one's", Check.STATE, x, () -> x.claim(1, 0, true));
        for (int owner = 0; owner < 4; owner++) {
            int number = owner;
            Check.refused("15 nobody's", Check.STATE, x, () -> x.claim(number, 2, true));
        }
        x.claim(0, 0, true);
        Check.refused("15 claimed", Check.STATE, x, () -> x.claim(0, 0, true));
        Check.refused("15 claimed, owner", Check.INDEX, x, () -> x.claim(4, 0, true));
    }

    private static void audit() {
        Escheatry x = paid();
        x.holder(0);
        Check.same("16 without any", x.audit(0, 1), 0);
        int[] kinds = {Check.BOX, Check.WAGE, Check.WAGE, Check.WAGE, Check.BOX, Check.CARD, Check.WAGE, Check.BOX};
        for (int k : kinds) {
            Check.tell(x, k, 0, 0, 1000);
            Check.tell(x, Check.WAGE, 1, 0, 10);
        }
        Check.same("16 none is late", x.audit(0, 1), 0);
        Check.same("16 the other one's are reported", x.pass(1), 8);
        Check.same("16 what is paid is not looked at", x.audit(1, 1), 0);
        Check.same("16 each one", x.audit(0, 1), 4);
        Check.same("16 each second, 2 of 4", x.audit(0, 2), 4);
        Check.same("16 each third, 2 of 3", x.audit(0, 3), 5);
        Check.same("16 each fourth, 0 of 2", x.audit(0, 4), 0);
        Check.same("16 each fifth, 0 of 2", x.audit(0, 5), 0);
        Check.same("16 each sixth, 1 of 2", x.audit(0, 6), 4);
        Check.same("16 each seventh", x.audit(0, 7), 0);
        Check.same("16 the first one alone", x.audit(0, 10), 0);
        x.pass(1);
        Check.same("16 late is also what is due now", x.audit(0, 1), 5);
        Check.same("16 each fifth, 1 of 2", x.audit(0, 5), 4);
        x.send(2);
        x.pass(1);
        Check.same("16 one less is held, 4 of 7", x.audit(0, 1), 4);
        Check.same("16 each second, 2 of 4", x.audit(0, 2), 3);
        Check.same("16 each third, 0 of 3", x.audit(0, 3), 0);
        Check.same("16 each fourth, 1 of 2", x.audit(0, 4), 3);
        Escheatry y = paid();
        y.law(0, Check.BOX, 0);
        Check.tell(y, Check.BOX, 0, 0, 1000);
        Check.same("16 due in this year", y.audit(0, 10), 1);
    }

    private static void auditRefused() {
        Escheatry x = paid(100);
        for (int none : new int[] {-1, 1, MIN, MAX}) {
            Check.refused("16 holder", Check.INDEX, x, () -> x.audit(none, 1));
            Check.refused("16 holder ahead of each", Check.INDEX, x, () -> x.audit(none, 0));
        }
        for (int none : new int[] {0, -1, 11, MIN, MAX}) {
            Check.refused("16 each", Check.ARGUMENT, x, () -> x.audit(0, none));
        }
    }

    private static void year() {
        Escheatry x = new Escheatry();
        Check.same("17 at first", x.year(), 0);
        x.pass(3);
        Check.same("17 year", x.year(), 3);
        x.pass(20);
        Check.same("17 year", x.year(), 23);
        Check.refused("17 refused years do not go by", Check.ARGUMENT, x, () -> x.pass(0));
    }

    private static void about() {
        Escheatry x = paid(49, 600);
        Check.tell(x, Check.SHARE, 0, 1, 100);
        Check.tell(x, Check.CARD, 0, -1, 40);
        x.holder(3);
        x.pass(2);
        x.send(1);
        x.send(2);
        x.split(0);
        x.contact(1, 0);
        x.move(0, 3);
        x.claim(0, 0, true);
        x.merge(0, 1);
        int[][] want = {
            {Escheatry.CLAIMED, 49, 0, 0, 1, 49, 0},
            {Escheatry.HELD, 600, 0, 0, 1, 0, 1},
            {Escheatry.HELD, 200, 2, 1, 1, 0, 1},
            {Escheatry.PAID, 40, 0, 4, 1, 40, 0},
        };
        for (int i = 0; i < want.length; i++) {
            for (int what = 0; what <= 6; what++) {
                Check.same("18 about(" + i + ", " + what + ")", x.about(i, what), want[i][what]);
            }
        }
        x.pass(1);
        Check.same("18 what it is paid", x.about(1, 5), 598);
        Check.same("18 paid to the address of then", x.about(1, 3), 0);
    }

    private static void aboutRefused() {
        Escheatry x = paid(100);
        for (int none : new int[] {-1, 1, MIN, MAX}) {
            Check.refused("18 item", Check.INDEX, x, () -> x.about(none, 0));
            Check.refused("18 item ahead of what", Check.INDEX, x, () -> x.about(none, 7));
            Check.refused("19 item", Check.INDEX, x, () -> x.due(none));
            Check.refused("20 item", Check.INDEX, x, () -> x.dueAnew(none));
        }
        for (int none : new int[] {-1, 7, MIN, MAX}) {
            Check.refused("18 what", Check.ARGUMENT, x, () -> x.about(0, none));
        }
        for (int none : new int[] {-1, 5, MIN, MAX}) {
            Check.refused("21 state", Check.INDEX, x, () -> x.purse(none));
            Check.refused("22 state", Check.INDEX, x, () -> x.purseAnew(none));
        }
        for (int none : new int[] {-1, 1, MIN, MAX}) {
            Check.refused("23 holder", Check.INDEX, x, () -> x.fined(none));
        }
    }

    private static void sameDue(String what, Escheatry x, int item, int want) {
        Check.same("19 " + what, x.due(item), want);
        Check.same("20 " + what, x.dueAnew(item), want);
    }

    private static void due() {
        Escheatry x = paid();
        x.law(0, Check.ACCOUNT, 20);
        x.pass(2);
        Check.tell(x, Check.ACCOUNT, 0, 0, 40);
        Check.tell(x, Check.WAGE, 0, 1, 40);
        sameDue("by the law of an earlier year", x, 0, 22);
        x.law(0, Check.ACCOUNT, 3);
        sameDue("by the law of this year", x, 0, 5);
        x.move(0, 2);
        sameDue("by the law of another state", x, 0, 7);
        x.law(2, Check.ACCOUNT, 0);
        sameDue("at once", x, 0, 2);
        x.law(2, Check.ACCOUNT, 4);
        x.pass(1);
        x.law(2, Check.ACCOUNT, 9);
        x.law(1, Check.WAGE, 9);
        x.move(0, 0);
        sameDue("not by a later law or move", x, 0, 6);
        sameDue("as it was when it was paid", x, 1, 3);
        x.contact(0, 0);
        sameDue("anew by the law that counts now", x, 0, 6);
        x.pass(1);
        x.move(0, 2);
        x.contact(0, 0);
        sameDue("anew by the later law", x, 0, 13);
        x.claim(1, 1, false);
        sameDue("also what is claimed", x, 1, 3);
    }

    private static void dueOfNobodys() {
        Escheatry x = paid();
        x.holder(1);
        x.law(4, Check.CARD, 10);
        x.law(1, Check.CARD, 1);
        Check.tell(x, Check.CARD, 0, -1, 40);
        sameDue("by the home of the holder", x, 0, 10);
        x.merge(0, 1);
        sameDue("by the home of the one that has it now", x, 0, 1);
        Check.same("19 reported there", x.pass(1), 1);
        Check.same("19 paid there", x.purse(1), 40);
        x.holder(2);
        x.merge(1, 2);
        sameDue("what is paid stays", x, 0, 1);
        Check.same("18 also its state", x.about(0, 3), 1);
    }

    private static void purses() {
        Escheatry x = paid(10, 20, 3000);
        Check.tell(x, Check.WAGE, 0, 3, 40);
        Check.tell(x, Check.CARD, 0, -1, 30);
        x.send(2);
        x.pass(2);
        int[] want = {3028, 0, 0, 40, 30};
        samePurses("after reports", x, want);
        x.claim(0, 2, true);
        x.claim(3, 3, false);
        samePurses("after claims", x, new int[] {30, 0, 0, 0, 30});
        x.merge(0, x.holder(2));
        samePurses("after a merger", x, new int[] {30, 0, 0, 0, 30});
    }

    private static void samePurses(String what, Escheatry x, int[] want) {
        for (int s = 0; s < 5; s++) {
            Check.same("21 purse " + what, x.purse(s), want[s]);
            Check.same("22 purseAnew " + what, x.purseAnew(s), want[s]);
        }
    }

    private static void finesAndFinders() {
        Escheatry x = paid(100, 49);
        x.holder(1);
        Check.tell(x, Check.BOX, 1, 0, 100);
        Check.same("23 at first", x.fined(0), 0);
        x.pass(4);
        Check.same("23 for each year", x.fined(0), 20);
        Check.same("23 another holder", x.fined(1), 0);
        Check.same("24 at first", x.finders(), 0);
        x.claim(0, 1, true);
        Check.same("24 a tenth", x.finders(), 4);
        x.send(0);
        x.pass(1);
        x.claim(0, 0, false);
        Check.same("24 none for none", x.finders(), 4);
    }
}
