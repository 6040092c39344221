/** Promises 15 and 16: claim, audit. */
public final class ClaimsTest {
    /** Items 0 to 4 are PAID, CLAIMED, HELD, nobody's and PAID, a dead one's and PAID; owner 1 is an heir of both others. */
    private static final Check.Story SOME = Tell.PLACE.then(x -> {
        x.owner(4);
        Tell.item(x, Tell.WAGE, 0, 0, 40);
        Tell.item(x, Tell.WAGE, 0, 0, 30);
        Tell.item(x, Tell.WAGE, 0, 0, 2000);
        Tell.item(x, Tell.WAGE, 0, Tell.NONE, 20);
        Tell.item(x, Tell.WAGE, 0, 2, 10);
        x.heir(0, 1);
        x.heir(2, 1);
        x.pass(1);
        x.claim(0, 1, true);
        x.death(2);
    });

    public static void main(String[] args) {
        Check.run(ClaimsTest::claim, ClaimsTest::claimRefused, ClaimsTest::audit);
        for (int number = 15; number <= 16; number++) {
            Doc.quotedWhole("Promise " + number);
        }
        Check.end("ClaimsTest");
    }

    private static void claim() {
        Doc.promise(15, "Claims an item.");
        Escheatry x = Check.after(SOME);
        x.claim(0, 0, false);
        Check.same("CLAIMED", x.about(0, 0), 2);
        Check.same("the purse", x.purse(2), 0);
        Check.same("another item", x.about(4, 0), 1);
        Check.same("another purse", x.purse(4), 10);

        Doc.promise(15, "Returns what the one who claims gets.");
        Check.same("the owner", Check.after(SOME).claim(0, 0, false), 40);
        Check.same("less a tenth", Check.after(SOME).claim(0, 0, true), 36);
        Check.same("an heir", Check.after(SOME).claim(1, 4, false), 10);
        Check.same("less a tenth", Check.after(SOME).claim(1, 4, true), 9);
        Escheatry letters = Check.after(SOME);
        letters.send(2);
        letters.pass(1);
        Check.same("without what letters cost", letters.claim(0, 2, false), 1998);
        Escheatry nothing = Tell.place();
        Tell.items(nothing, 2, Tell.WAGE, 0, 0, 1);
        nothing.send(0);
        nothing.pass(1);
        Check.same("nothing", nothing.claim(0, 0, true), 0);
        Check.same("a tenth of 1 is none", nothing.claim(0, 1, true), 1);
    }

    private static void claimRefused() {
        Doc.promise(15, "Throws `IndexOutOfBoundsException` as told, of the owner or the item");
        for (int none : Check.outside(0, 2)) {
            Check.refused("owner " + none, Check.INDEX, SOME, x -> x.claim(none, 0, true));
            Check.refused("owner " + none + " of nobody's", Check.INDEX, SOME, x -> x.claim(none, 3, true));
        }
        for (int none : Check.outside(0, 4)) {
            Check.refused("item " + none, Check.INDEX, SOME, x -> x.claim(0, none, true));
        }

        Doc.promise(15, "Throws `IllegalStateException` if it is not PAID, or the owner may not");
        for (boolean hasFinder : new boolean[] {false, true}) {
            Check.refused("HELD", Check.STATE, SOME, x -> x.claim(0, 2, hasFinder));
            Check.refused("CLAIMED", Check.STATE, SOME, x -> x.claim(0, 1, hasFinder));
            Check.refused("another one", Check.STATE, SOME, x -> x.claim(1, 0, hasFinder));
            Check.refused("a dead one for another one's", Check.STATE, SOME, x -> x.claim(2, 0, hasFinder));
            Check.refused("a dead one for one's own", Check.STATE, SOME, x -> x.claim(2, 4, hasFinder));
            Check.refused("one who is no heir", Check.STATE, SOME, x -> x.claim(0, 4, hasFinder));
            Check.refused("nobody's", Check.STATE, SOME, x -> x.claim(0, 3, hasFinder));
            Check.refused("nobody's, by the last owner", Check.STATE, SOME, x -> x.claim(1, 3, hasFinder));
        }
        Check.refused("a dead heir", Check.STATE, SOME.then(x -> x.death(1)), x -> x.claim(1, 4, false));
        Check.refused("HELD, of a dead one, by an heir", Check.STATE, SOME.then(x -> x.death(0)), x -> x.claim(1, 2, false));
        Check.refused("CLAIMED, of a dead one, by an heir", Check.STATE, SOME.then(x -> x.death(0)), x -> x.claim(1, 1, false));
    }

    private static void audit() {
        Doc.promise(16, "Audits a holder.");
        Escheatry x = Check.after(SOME);
        Check.same("with a late item", x.audit(0, 1), 1);
        Check.same("without items", x.audit(1, 1), 0);
        Check.same("nothing is changed by it", x.audit(0, 1), 1);

        Doc.promise(16, "- `each`: 1 to 10");
        Escheatry row = Tell.place();
        Tell.item(row, Tell.WAGE, 0, 0, 100);
        Tell.items(row, 23, Tell.BOX, 0, 0, 100);
        row.pass(1);
        // The first one alone is late, so what is found is 24 divided by how many are looked at.
        int[] finds = {1, 2, 3, 4, 4, 6, 6, 8, 8, 8};
        for (int each = 1; each <= 10; each++) {
            Check.same("each " + each, row.audit(0, each), finds[each - 1]);
        }

        Doc.promise(16, "Returns what it finds.");
        int[] late = {1, 24, 0};
        for (int find : late) {
            Escheatry y = Tell.place();
            Tell.items(y, find, Tell.WAGE, 0, 0, 100);
            Tell.items(y, 24 - find, Tell.BOX, 0, 0, 100);
            Check.same("none is late", y.audit(0, 1), 0);
            y.pass(1);
            Check.same("late", y.audit(0, 1), find);
        }

        Doc.promise(16, "Throws `IndexOutOfBoundsException` as told");
        for (int none : Check.outside(0, 1)) {
            Check.refused("holder " + none, Check.INDEX, SOME, y -> y.audit(none, 1));
        }

        Doc.promise(16, "Throws `IllegalArgumentException` if each is out of range");
        for (int none : Check.outside(1, 10)) {
            Check.refused("each " + none, Check.ARGUMENT, SOME, y -> y.audit(0, none));
            Check.refused("each " + none + " of none", Check.ARGUMENT, SOME, y -> y.audit(1, none));
        }
    }
}
