/** Promises 17 to 24: year, about, due, dueAnew, purse, purseAnew, fined, finders. */
public final class QuestionsTest {
    /** Items 0 to 3 are CLAIMED, HELD, a share that is HELD, nobody's and PAID; all at holder 1; the year 2. */
    private static final Check.Story SOME = Tell.PLACE.then(x -> {
        x.holder(3);
        Tell.item(x, Tell.WAGE, 0, 0, 49);
        Tell.item(x, Tell.WAGE, 0, 0, 600);
        Tell.item(x, Tell.SHARE, 0, 1, 100);
        Tell.item(x, Tell.CARD, 0, Tell.NONE, 40);
        x.pass(2);
        x.send(1);
        x.send(2);
        x.send(2);
        x.split(0);
        x.contact(1, 0);
        x.move(0, 3);
        x.claim(0, 0, true);
        x.merge(0, 1);
    });

    public static void main(String[] args) {
        Check.run(QuestionsTest::year, QuestionsTest::about, QuestionsTest::aboutRefused, QuestionsTest::due,
            QuestionsTest::dueAnew, QuestionsTest::purses, QuestionsTest::pursesRefused, QuestionsTest::fined,
            QuestionsTest::finders);
        for (int number = 17; number <= 24; number++) {
            Doc.quotedWhole("Promise " + number);
        }
        Check.end("QuestionsTest");
    }

    private static void year() {
        Doc.promise(17, "Returns the year.");
        Escheatry x = new Escheatry();
        Check.same("at first", x.year(), 0);
        x.pass(1);
        Check.same("behind 1", x.year(), 1);
        for (int twenties = 1; twenties < 20; twenties++) {
            x.pass(20);
            Check.same("behind 20 more", x.year(), 1 + 20 * twenties);
        }
        x.pass(19);
        Check.same("at last", x.year(), 400);
    }

    private static void about() {
        Doc.promise(18, "Tells of an item.");
        Escheatry x = Check.after(SOME);
        int[][] want = {
            {Escheatry.CLAIMED, 49, 0, 2, 1, 49, 0},
            {Escheatry.HELD, 600, 0, 2, 1, 0, 1},
            {Escheatry.HELD, 200, 2, 3, 1, 0, 2},
            {Escheatry.PAID, 40, 0, 0, 1, 40, 0},
        };
        for (int item = 0; item < 4; item++) {
            for (int what = 0; what <= 6; what++) {
                Check.same("about " + item + ", " + what, x.about(item, what), want[item][what]);
            }
        }

        Doc.promise(18, "- `what`: 0 HELD to CLAIMED, 1 its amount, 2 when it was touched last, 3 its state (that to which it is PAID, "
            + "if it is, or was), 4 its holder, 5 what it is PAID, 0 for none, 6 how many letters were sent");
        x.send(1);
        x.pass(1);
        Check.same("0 PAID now", x.about(1, 0), Escheatry.PAID);
        Check.same("1 its amount, not what it is PAID", x.about(1, 1), 600);
        Check.same("2 touched long ahead", x.about(1, 2), 0);
        Check.same("3 the address of then, not of now", x.about(1, 3), 2);
        Check.same("5 PAID less two letters", x.about(1, 5), 596);
        Check.same("5 none for what is HELD", x.about(2, 5), 0);
        Check.same("6 letters", x.about(1, 6), 2);
        x.merge(1, 2);
        Check.same("3 to which it is PAID, also at another holder", x.about(3, 3), 0);
        Check.same("4 that other holder", x.about(3, 4), 2);
        x.claim(0, 1, true);
        Check.same("0 CLAIMED now", x.about(1, 0), Escheatry.CLAIMED);
        Check.same("3 to which it was PAID", x.about(1, 3), 2);
        Check.same("5 what it was PAID, not what one gets", x.about(1, 5), 596);
        Check.same("6 letters still", x.about(1, 6), 2);
        Escheatry nothing = Tell.place();
        Tell.item(nothing, Tell.WAGE, 0, 0, 2);
        nothing.send(0);
        nothing.pass(1);
        Check.same("5 PAID, namely nothing", nothing.about(0, 5), 0);
    }

    private static void aboutRefused() {
        Doc.promise(18, "Throws `IndexOutOfBoundsException` as told");
        for (int none : Check.outside(0, 3)) {
            for (int w = 0; w <= 6; w++) {
                int what = w;
                Check.refused("about " + none, Check.INDEX, SOME, x -> x.about(none, what));
            }
        }

        Doc.promise(18, "Throws `IllegalArgumentException` if what is out of range");
        for (int none : Check.outside(0, 6)) {
            for (int i = 0; i < 4; i++) {
                int item = i;
                Check.refused("about " + i + ", " + none, Check.ARGUMENT, SOME, x -> x.about(item, none));
            }
        }
    }

    private static void due() {
        Doc.promise(19, "Returns the year in which an item is due, or was, as it was touched last.");
        Escheatry x = Check.after(SOME);
        x.law(3, Tell.SHARE, 0);
        Check.same("was, CLAIMED", x.due(0), 1);
        Check.same("was, HELD and late", x.due(1), 1);
        Check.same("is due, at once", x.due(2), 2);
        Check.same("was, PAID", x.due(3), 2);
        x.law(3, Tell.SHARE, 20);
        Check.same("is due, behind 20 years", x.due(2), 22);
        x.law(2, Tell.WAGE, 9);
        x.law(0, Tell.CARD, 9);
        x.pass(1);
        x.merge(1, 2);
        Check.same("CLAIMED, as it was touched", x.due(0), 1);
        Check.same("PAID late, as it was touched", x.due(1), 1);
        Check.same("HELD, as it was touched", x.due(2), 22);
        Check.same("PAID, as it was touched", x.due(3), 2);
        x.move(1, 4);
        x.contact(1, 2);
        Check.same("touched anew, in another state", x.due(2), 7);

        Doc.promise(19, "Throws `IndexOutOfBoundsException` as told");
        for (int none : Check.outside(0, 3)) {
            Check.refused("due of " + none, Check.INDEX, SOME, y -> y.due(none));
        }
        Check.same("of the last item", Check.after(SOME).due(3), 2);
    }

    private static void dueAnew() {
        Doc.promise(20, "Returns the same, waited for year by year.");
        for (int sleep = 0; sleep <= 20; sleep++) {
            Escheatry x = Tell.place();
            x.pass(7);
            x.law(0, Tell.CARD, sleep);
            Tell.item(x, Tell.CARD, 0, Tell.NONE, 30);
            Check.same("anew", x.dueAnew(0), 7 + sleep);
            Check.same("at once", x.due(0), 7 + sleep);
            x.pass(20);
            x.law(0, Tell.CARD, 20 - sleep);
            Check.same("PAID, anew", x.dueAnew(0), 7 + sleep);
        }
        Escheatry x = Check.after(SOME);
        int[] want = {1, 1, 6, 2};
        for (int item = 0; item < 4; item++) {
            Check.same("anew " + item, x.dueAnew(item), want[item]);
        }
        for (boolean merged : new boolean[] {false, true}) {
            Escheatry y = Tell.place();
            y.law(1, Tell.CARD, 9);
            Tell.item(y, Tell.CARD, 0, Tell.NONE, 30);
            y.pass(2);
            if (merged) {
                y.merge(0, 1);
            }
            Check.same("PAID, by the law of the state that got it", y.dueAnew(0), 2);
        }

        Doc.promise(20, "Throws `IndexOutOfBoundsException` as told");
        for (int none : Check.outside(0, 3)) {
            Check.refused("dueAnew of " + none, Check.INDEX, SOME, y -> y.dueAnew(none));
        }
    }

    private static void samePurses(String what, boolean anew, Escheatry x, int... want) {
        for (int s = 0; s < 5; s++) {
            Check.same(what + " in " + s, anew ? x.purseAnew(s) : x.purse(s), want[s]);
        }
    }

    private static void purses() {
        for (boolean anew : new boolean[] {false, true}) {
            Doc.promise(anew ? 22 : 21, anew ? "Returns the same, found from what was noted of payments and claims."
                : "Returns what is in the purse of a state.");
            samePurses("nothing at first", anew, new Escheatry(), 0, 0, 0, 0, 0);
            Escheatry x = Check.after(SOME);
            samePurses("a payment, and a claim of another", anew, x, 40, 0, 0, 0, 0);
            x.pass(1);
            samePurses("a letter was sent", anew, x, 40, 0, 598, 0, 0);
            x.pass(20);
            samePurses("fines are none of it", anew, x, 40, 0, 598, 0, 0);
            x.merge(1, 2);
            samePurses("nor mergers", anew, x, 40, 0, 598, 0, 0);
            x.claim(0, 1, true);
            samePurses("a claim with a finder", anew, x, 40, 0, 0, 0, 0);
            Escheatry full = new Escheatry();
            for (int s = 0; s < 5; s++) {
                full.holder(s);
            }
            for (int item = 0; item < 24; item++) {
                Tell.item(full, Tell.WAGE, item % 5, Tell.NONE, 40 + item % 5);
            }
            full.pass(1);
            samePurses("24 payments", anew, full, 5 * 40, 5 * 41, 5 * 42, 5 * 43, 4 * 44);
        }
    }

    private static void pursesRefused() {
        Doc.promise(21, "Throws `IndexOutOfBoundsException` as told");
        for (int none : Check.outside(0, 4)) {
            Check.refused("purse of " + none, Check.INDEX, SOME, x -> x.purse(none));
        }

        Doc.promise(22, "Throws `IndexOutOfBoundsException` as told");
        for (int none : Check.outside(0, 4)) {
            Check.refused("purseAnew of " + none, Check.INDEX, SOME, x -> x.purseAnew(none));
        }
    }

    private static void fined() {
        Doc.promise(23, "Returns what a holder was fined.");
        Escheatry x = Check.after(SOME);
        Check.same("30 in each of two years", x.fined(0), 60);
        Check.same("none comes along with a merger", x.fined(1), 0);
        x.pass(1);
        Check.same("a letter spares the fine", x.fined(1), 0);
        x.pass(3);
        Check.same("10 for the share", x.fined(1), 10);
        x.merge(1, 2);
        x.pass(2);
        Check.same("the third one's", x.fined(2), 20);
        Check.same("that of one that merged stays", x.fined(1), 10);
        Check.same("that of the first stays", x.fined(0), 60);

        Doc.promise(23, "Throws `IndexOutOfBoundsException` as told");
        for (int none : Check.outside(0, 2)) {
            Check.refused("fined " + none, Check.INDEX, SOME, y -> y.fined(none));
        }
    }

    private static void finders() {
        Doc.promise(24, "Returns what all finders got.");
        Check.same("at first", new Escheatry().finders(), 0);
        Escheatry x = Check.after(SOME);
        Check.same("a tenth of 49", x.finders(), 4);
        x.pass(1);
        x.claim(0, 1, false);
        Check.same("none without a finder", x.finders(), 4);
        x.send(2);
        x.law(3, Tell.SHARE, 0);
        x.pass(20);
        x.send(2);
        x.pass(1);
        x.claim(1, 2, true);
        Check.same("and a tenth of 192", x.finders(), 23);
    }
}
