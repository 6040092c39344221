/** Terms, 'Exceptions', and the constants. */
public final class ExceptionsTest {
    /** Two holders, a third one that has merged, two owners, a third one who is dead, three items: PAID, CLAIMED, HELD. */
    private static final Check.Story SOME = Tell.PLACE.then(x -> {
        x.holder(4);
        x.owner(1);
        Tell.item(x, Tell.WAGE, 0, 0, 40);
        Tell.item(x, Tell.WAGE, 0, 0, 30);
        Tell.item(x, Tell.SHARE, 0, 0, 8000);
        x.heir(0, 1);
        x.merge(2, 1);
        x.death(2);
        x.law(2, Tell.CARD, 8);
        x.pass(1);
        x.move(0, 4);
        x.claim(0, 1, true);
        x.send(2);
        for (int split = 0; split < 6; split++) {
            x.split(0);
        }
        Tell.type(x, "wag");
    });

    public static void main(String[] args) {
        Check.run(ExceptionsTest::noSuch, ExceptionsTest::outOfRange, ExceptionsTest::asTheMethodTells,
            ExceptionsTest::firstNamedIsThrown, ExceptionsTest::changesNothing, ExceptionsTest::none,
            ExceptionsTest::howItemsAre);
        Doc.promisesNothing("Exceptions", "The constants:");
        for (String calls : new String[] {"`letter`, `holder`, `owner`, `item`, `law`, `move`, `death`, `heir` the interface says: ---- holders, owners, items.",
            "`contact`, `send`, `split`, `merge`, `pass` the interface says: ---- contacts, letters, years.",
            "`claim`, `audit` the interface says: ---- claims, audits.",
            "`year`, `about`, `due`, `dueAnew`, `purse`, `purseAnew`, `fined`, `finders` the interface says: ---- questions."}) {
            Doc.promisesNothing("Exceptions", "Ahead of the calls " + calls);
        }
        Doc.quotedWhole("Exceptions");
        Check.end("ExceptionsTest");
    }

    private static void says(String sentence) {
        Doc.says("Exceptions", sentence);
    }

    private static void index(String what, Check.Call call) {
        Check.refused(what, Check.INDEX, SOME, call);
    }

    private static void argument(String what, Check.Call call) {
        Check.refused(what, Check.ARGUMENT, SOME, call);
    }

    private static void state(String what, Check.Call call) {
        Check.refused(what, Check.STATE, SOME, call);
    }

    private static void noSuch() {
        says("IndexOutOfBoundsException: there is no such state, kind, holder, owner or item.");
        for (int none : Check.outside(0, 4)) {
            index("no state " + none, x -> x.holder(none));
            index("no state " + none, x -> x.purse(none));
        }
        for (int none : Check.outside(0, 5)) {
            index("no kind " + none, x -> x.law(0, none, 1));
        }
        for (int none : Check.outside(0, 2)) {
            index("no holder " + none, x -> x.fined(none));
            index("no owner " + none, x -> x.death(none));
            index("no item " + none, x -> x.due(none));
        }
        noneYet();
    }

    private static void noneYet() {
        Check.Story nothing = Tell.NOTHING;
        Check.refused("no holder yet", Check.INDEX, nothing, x -> x.fined(0));
        Check.refused("no holder yet to split", Check.INDEX, nothing, x -> x.split(0));
        Check.refused("no holder yet to audit", Check.INDEX, nothing, x -> x.audit(0, 1));
        Check.refused("no holder yet to merge", Check.INDEX, nothing, x -> x.merge(0, 1));
        Check.refused("no holder yet of an item", Check.INDEX, nothing, x -> x.item(0, Tell.NONE, 1));
        Check.refused("no owner yet to die", Check.INDEX, nothing, x -> x.death(0));
        Check.refused("no owner yet to move", Check.INDEX, nothing, x -> x.move(0, 0));
        Check.refused("no owner yet with heirs", Check.INDEX, nothing, x -> x.heir(0, 1));
        Check.refused("no item yet to send for", Check.INDEX, nothing, x -> x.send(0));
        Check.refused("no item yet to ask about", Check.INDEX, nothing, x -> x.about(0, 0));
        Check.refused("no item yet that is due", Check.INDEX, nothing, x -> x.due(0));
        Check.refused("no item yet that is due anew", Check.INDEX, nothing, x -> x.dueAnew(0));
        Check.Story holder = x -> x.holder(0);
        Check.refused("no owner yet of an item", Check.INDEX, holder, x -> x.item(0, 0, 1));
        Check.refused("no owner yet with a contact", Check.INDEX, holder, x -> x.contact(0, 0));
        Check.refused("one holder alone", Check.INDEX, holder, x -> x.merge(0, 1));
        Check.Story owner = x -> x.owner(0);
        Check.refused("no holder yet of a contact", Check.INDEX, owner, x -> x.contact(0, 0));
        Check.refused("one owner alone", Check.INDEX, owner, x -> x.heir(0, 1));
        Check.refused("no item yet to claim", Check.INDEX, owner, x -> x.claim(0, 0, false));
    }

    private static void outOfRange() {
        says("IllegalArgumentException: another argument is out of its range.");
        argument("letter", x -> x.letter('A'));
        argument("amount", x -> x.item(0, 0, 0));
        argument("years of a law", x -> x.law(0, 0, 21));
        argument("heir", x -> x.heir(1, 1));
        argument("into", x -> x.merge(1, 1));
        argument("years to pass", x -> x.pass(0));
        argument("each", x -> x.audit(0, 11));
        argument("what", x -> x.about(0, 7));
    }

    private static void asTheMethodTells() {
        says("IllegalStateException: as the method tells.");
        state("item at one that merged", x -> x.item(2, 0, 1));
        state("move of a dead one", x -> x.move(2, 0));
        state("death of a dead one", x -> x.death(2));
        state("contact of a dead one", x -> x.contact(2, 0));
        state("letter for what is PAID", x -> x.send(0));
        state("split above 1000000", x -> x.split(0));
        state("merger of one that merged", x -> x.merge(2, 0));
        state("merger into one that merged", x -> x.merge(0, 2));
        state("claim of what is HELD", x -> x.claim(0, 2, false));
        state("claim by one who may not", x -> x.claim(1, 0, false));
    }

    private static void firstNamedIsThrown() {
        says("If several apply, the one that is named first in the throws clause is thrown;");
        Check.refused("letter, none of these and 7", Check.ARGUMENT, SOME.then(x -> Tell.type(x, "eeee")), x -> x.letter('-'));
        Check.Story six = SOME.then(x -> {
            x.holder(0);
            x.holder(0);
            x.holder(0);
        });
        Check.refused("holder, no state and 6", Check.INDEX, six, x -> x.holder(5));
        Check.Story eight = SOME.then(x -> {
            for (int owner = 3; owner < 8; owner++) {
                x.owner(0);
            }
        });
        Check.refused("owner, no state and 8", Check.INDEX, eight, x -> x.owner(-1));
        Check.Story full = Tell.PLACE.then(x -> Tell.items(x, 24, Tell.BOX, 0, 0, 1));
        Check.refused("item, no holder and 24", Check.INDEX, full, x -> x.item(2, 0, 1));
        Check.refused("item, no owner and 24", Check.INDEX, full, x -> x.item(0, 2, 1));
        Check.refused("item, amount and 24", Check.ARGUMENT, full, x -> x.item(0, 0, 10001));
        Check.refused("item, all of them", Check.INDEX, full, x -> x.item(0, -2, 0));
        index("item, no owner, amount and merged", x -> x.item(2, 3, 0));
        index("item, no holder and amount", x -> x.item(3, 0, 10001));
        argument("item, amount and merged", x -> x.item(2, 0, 0));
        index("law, no state and years", x -> x.law(5, 0, 21));
        index("law, no kind and years", x -> x.law(0, 6, -1));
        index("move, no state and dead", x -> x.move(2, 5));
        index("heir, no owner and the same", x -> x.heir(3, 3));
        index("heir, no owner at all and the same", x -> x.heir(-1, -1));
        index("contact, no holder and dead", x -> x.contact(2, 3));
        index("merge, no holder and the same", x -> x.merge(3, 3));
        index("merge, no holder and merged", x -> x.merge(2, 3));
        index("merge, no holder, into one that merged", x -> x.merge(-1, 2));
        argument("merge, the same and merged", x -> x.merge(2, 2));
        Check.refused("pass, years and above 400", Check.ARGUMENT, SOME.then(x -> Tell.until(x, 400)), x -> x.pass(21));
        Check.refused("pass, far too many years", Check.ARGUMENT, SOME.then(x -> Tell.until(x, 400)), x -> x.pass(Integer.MAX_VALUE));
        index("claim, no owner and HELD", x -> x.claim(3, 2, false));
        index("claim, no item and dead", x -> x.claim(2, 3, false));
        index("claim, nobody and HELD", x -> x.claim(Tell.NONE, 2, false));
        index("audit, no holder and each", x -> x.audit(3, 0));
        index("about, no item and what", x -> x.about(3, 7));
    }

    private static void changesNothing() {
        says("a call that throws changes nothing.");
        // Each test of a call that is refused looks for that; here are such calls in a row, and then all goes on.
        Check.Story thrice = SOME.then(x -> {
            for (int time = 0; time < 3; time++) {
                Check.thrownBy(() -> x.item(2, 0, 5));
                Check.thrownBy(() -> x.law(0, 0, 21));
                Check.thrownBy(() -> x.move(0, 5));
                Check.thrownBy(() -> x.heir(0, 3));
                Check.thrownBy(() -> x.split(0));
                Check.thrownBy(() -> x.merge(0, 2));
                Check.thrownBy(() -> x.pass(21));
                Check.thrownBy(() -> x.claim(1, 0, true));
            }
        });
        String[] with = Probe.all(thrice);
        String[] without = Probe.all(SOME);
        for (int way = 0; way < with.length; way++) {
            Check.same("all", with[way], without[way]);
        }
    }

    private static void none() {
        says("`NONE = -1`: There is none.");
        Check.same("NONE", Escheatry.NONE, -1);
        Escheatry x = Tell.place();
        Check.same("no kind", x.item(0, Escheatry.NONE, 1), Escheatry.NONE);
        Check.same("nobody known", Tell.item(x, Tell.BOX, 1, Escheatry.NONE, 1), 0);
        Check.same("at home", x.about(0, 3), 1);
        Check.refused("NONE as a holder", Check.INDEX, Tell.PLACE, y -> y.item(Escheatry.NONE, 0, 1));
        Check.refused("NONE with a contact", Check.INDEX, Tell.PLACE, y -> y.contact(Escheatry.NONE, 0));
        Check.refused("NONE as an heir", Check.INDEX, Tell.PLACE, y -> y.heir(0, Escheatry.NONE));
    }

    private static void howItemsAre() {
        says("`HELD = 0, PAID = 1, CLAIMED = 2`: How items are.");
        Check.same("HELD", Escheatry.HELD, 0);
        Check.same("PAID", Escheatry.PAID, 1);
        Check.same("CLAIMED", Escheatry.CLAIMED, 2);
        Escheatry x = Tell.place();
        Tell.item(x, Tell.WAGE, 0, 0, 1);
        Check.same("at first", x.about(0, 0), Escheatry.HELD);
        x.pass(1);
        Check.same("reported", x.about(0, 0), Escheatry.PAID);
        x.claim(0, 0, false);
        Check.same("claimed", x.about(0, 0), Escheatry.CLAIMED);
    }
}
