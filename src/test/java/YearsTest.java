/** Promises 10 to 14: contact, send, split, merge, pass. */
public final class YearsTest {
    /** Items 0 to 3 are PAID, CLAIMED, a share and a box that are HELD; holder 2 has merged, owner 2 is dead; the year 1. */
    private static final Check.Story SOME = Tell.PLACE.then(x -> {
        x.holder(4);
        x.merge(2, 0);
        x.owner(4);
        Tell.item(x, Tell.WAGE, 0, 0, 40);
        Tell.item(x, Tell.WAGE, 0, 0, 30);
        Tell.item(x, Tell.SHARE, 0, 0, 10000);
        Tell.item(x, Tell.BOX, 0, 2, 700);
        x.death(2);
        x.pass(1);
        x.claim(0, 1, true);
    });

    public static void main(String[] args) {
        Check.run(YearsTest::contact, YearsTest::send, YearsTest::split, YearsTest::merge, YearsTest::mergeRefused,
            YearsTest::pass, YearsTest::passRefused);
        for (int number = 10; number <= 14; number++) {
            Doc.quotedWhole("Promise " + number);
        }
        Check.end("YearsTest");
    }

    private static void contact() {
        Doc.promise(10, "Tells a contact.");
        Escheatry x = Check.after(SOME);
        x.contact(0, 0);
        Check.same("touched", x.about(2, 2), 1);
        Check.same("another one's is not", x.about(3, 2), 0);

        Doc.promise(10, "Returns how many items are touched.");
        for (int count : new int[] {0, 1, 23, 24}) {
            Escheatry y = Tell.place();
            Tell.items(y, count, Tell.BOX, 0, 0, 1000);
            Tell.items(y, 24 - count, Tell.BOX, 1, 0, 1000);
            y.pass(2);
            Check.same("touched", y.contact(0, 0), count);
            Check.same("and in the same year again", y.contact(0, 0), count);
            Check.same("none of another owner", y.contact(1, 0), 0);
        }
        Check.same("with a holder that has merged", x.contact(0, 2), 0);

        Doc.promise(10, "Throws `IndexOutOfBoundsException` as told, of the owner or the holder");
        for (int none : Check.outside(0, 2)) {
            Check.refused("owner " + none, Check.INDEX, SOME, y -> y.contact(none, 0));
            Check.refused("holder " + none, Check.INDEX, SOME, y -> y.contact(0, none));
        }

        Doc.promise(10, "Throws `IllegalStateException` if the owner is dead");
        Check.refused("with items there", Check.STATE, SOME, y -> y.contact(2, 0));
        Check.refused("without items there", Check.STATE, SOME, y -> y.contact(2, 1));
    }

    private static void send() {
        Doc.promise(11, "Sends a letter.");
        Escheatry x = Tell.place();
        Tell.items(x, 2, Tell.WAGE, 0, 0, 100);
        x.send(0);
        Check.same("one is reported for it", x.pass(1), 1);
        Check.same("that one", x.about(0, 5), 98);
        Check.same("no letter for the other", x.about(1, 6), 0);

        Doc.promise(11, "Returns how many were sent for the item.");
        Escheatry y = Tell.place();
        Tell.items(y, 2, Tell.BOX, 0, Tell.NONE, 100);
        for (int sent = 1; sent <= 60; sent++) {
            Check.same("letters", y.send(0), sent);
        }
        Check.same("for another item", y.send(1), 1);
        y.pass(3);
        Check.same("in a later year", y.send(0), 61);
        y.merge(0, 1);
        Check.same("at another holder", y.send(0), 62);
        Check.same("about", y.about(0, 6), 62);

        Doc.promise(11, "Throws `IndexOutOfBoundsException` as told");
        for (int none : Check.outside(0, 3)) {
            Check.refused("item " + none, Check.INDEX, SOME, z -> z.send(none));
        }

        Doc.promise(11, "Throws `IllegalStateException` if it is not HELD");
        Check.refused("PAID", Check.STATE, SOME, z -> z.send(0));
        Check.refused("CLAIMED", Check.STATE, SOME, z -> z.send(1));
        Check.same("HELD", Check.after(SOME).send(2), 1);
        Check.same("HELD, of a dead one", Check.after(SOME).send(3), 1);
    }

    private static void split() {
        Doc.promise(12, "Splits shares.");
        Escheatry x = Check.after(SOME);
        x.split(0);
        Check.same("a share", x.about(2, 1), 20000);
        Check.same("a box", x.about(3, 1), 700);

        Doc.promise(12, "Returns how many are worth more.");
        for (int count : new int[] {0, 1, 23, 24}) {
            Escheatry y = Tell.place();
            Tell.items(y, count, Tell.SHARE, 0, 0, 1);
            Tell.items(y, 24 - count, Tell.SHARE, 1, 0, 1);
            Check.same("worth more", y.split(0), count);
        }
        Check.same("of a holder without any", x.split(1), 0);
        Check.same("of a holder that has merged", x.split(2), 0);

        Doc.promise(12, "Throws `IndexOutOfBoundsException` as told");
        for (int none : Check.outside(0, 2)) {
            Check.refused("holder " + none, Check.INDEX, SOME, y -> y.split(none));
        }

        Doc.promise(12, "Throws `IllegalStateException` if one would be above 1000000");
        Check.Story most = SOME.then(y -> {
            Tell.item(y, Tell.SHARE, 0, 0, 1);
            for (int split = 0; split < 6; split++) {
                y.split(0);
            }
        });
        Check.same("six times", Check.after(most).about(2, 1), 640000);
        Check.refused("one of two", Check.STATE, most, y -> y.split(0));
        Check.refused("the other one's, behind a merger", Check.STATE, most.then(y -> y.merge(0, 1)), y -> y.split(1));
        Check.same("a holder without any", Check.after(most).split(1), 0);
        Check.same("the one that merged", Check.after(most.then(y -> y.merge(0, 1))).split(0), 0);
    }

    private static void merge() {
        Doc.promise(13, "Merges a holder into another one.");
        Escheatry x = Check.after(SOME);
        x.merge(0, 1);
        for (int item = 0; item < 4; item++) {
            Check.same("holder of " + item, x.about(item, 4), 1);
        }

        Doc.promise(13, "Returns how many items come to that, whatever they are.");
        Check.same("PAID, CLAIMED and HELD", Check.after(SOME).merge(0, 1), 4);
        Check.same("none", Check.after(SOME).merge(1, 0), 0);
        Escheatry y = Tell.place();
        y.holder(2);
        Tell.items(y, 23, Tell.BOX, 0, 0, 100);
        Tell.items(y, 1, Tell.BOX, 1, 0, 100);
        Check.same("23", y.merge(0, 1), 23);
        Check.same("these and its own", y.merge(1, 2), 24);
    }

    private static void mergeRefused() {
        Doc.promise(13, "Throws `IndexOutOfBoundsException` as told, of both");
        for (int none : Check.outside(0, 2)) {
            Check.refused("holder " + none, Check.INDEX, SOME, x -> x.merge(none, 0));
            Check.refused("into " + none, Check.INDEX, SOME, x -> x.merge(0, none));
        }

        Doc.promise(13, "Throws `IllegalArgumentException` if both are the same");
        for (int holder = 0; holder < 3; holder++) {
            int same = holder;
            Check.refused("into itself, " + holder, Check.ARGUMENT, SOME, x -> x.merge(same, same));
        }

        Doc.promise(13, "Throws `IllegalStateException` if one has merged into another one");
        Check.refused("again", Check.STATE, SOME, x -> x.merge(2, 0));
        Check.refused("into a third", Check.STATE, SOME, x -> x.merge(2, 1));
        Check.refused("into one that has merged", Check.STATE, SOME, x -> x.merge(0, 2));
        Check.refused("both have", Check.STATE, SOME.then(x -> x.merge(1, 0)), x -> x.merge(1, 2));
        Escheatry five = new Escheatry();
        for (int holder = 0; holder < 6; holder++) {
            five.holder(0);
        }
        for (int holder = 0; holder < 5; holder++) {
            Check.same("one into which another one merged may", five.merge(holder, holder + 1), 0);
        }
    }

    private static void pass() {
        Doc.promise(14, "Lets years go by.");
        Escheatry x = Check.after(SOME);
        x.pass(3);
        Check.same("year", x.year(), 4);
        x.pass(3);
        Check.same("year", x.year(), 7);
        Check.same("each of them begins: 4 to 7 and 6 to 7", x.fined(0), 4 * 500 + 2 * 35);

        Doc.promise(14, "- `years`: 1 to 20");
        for (int years = 1; years <= 20; years++) {
            Escheatry y = new Escheatry();
            y.pass(years);
            Check.same("year", y.year(), years);
        }

        Doc.promise(14, "Returns how many items are reported in these.");
        Escheatry y = Tell.place();
        for (int kind = 0; kind < 6; kind++) {
            Tell.item(y, kind, 0, 0, 49);
            Tell.item(y, kind, 0, 0, 50);
        }
        Check.same("the year 1", y.pass(1), 1);
        Check.same("the years 2 to 4", y.pass(3), 3);
        Check.same("the years 5 to 24", y.pass(20), 2);
        Check.same("no more", y.pass(20), 0);
        for (int item = 1; item < 12; item += 2) {
            y.send(item);
        }
        Check.same("those with letters", y.pass(1), 6);
        Escheatry all = Tell.place();
        Tell.items(all, 12, Tell.BOX, 0, 0, 1);
        Tell.items(all, 12, Tell.WAGE, 1, Tell.NONE, 1);
        Check.same("all 24", all.pass(20), 24);
    }

    private static void passRefused() {
        Doc.promise(14, "Throws `IllegalArgumentException` if years is out of range");
        for (int none : Check.outside(1, 20)) {
            Check.refused("years " + none, Check.ARGUMENT, SOME, x -> x.pass(none));
        }

        Doc.promise(14, "Throws `IllegalStateException` if it would be above 400");
        int[][] yearYears = {{400, 1}, {400, 20}, {399, 2}, {390, 11}, {381, 20}};
        for (int[] each : yearYears) {
            Check.Story late = SOME.then(x -> Tell.until(x, each[0]));
            Check.refused(each[1] + " behind " + each[0], Check.STATE, late, x -> x.pass(each[1]));
            if (each[1] > 1 && each[0] < 400) {
                Escheatry x = Check.after(late);
                Check.same("up to 400", x.pass(each[1] - 1), 0);
                Check.same("year", x.year(), 400);
            }
        }
        Escheatry x = Check.after(SOME.then(y -> Tell.until(y, 380)));
        Check.same("20 up to 400", x.pass(20), 0);
        Check.same("year", x.year(), 400);
        Check.same("an item in it", x.about(Tell.item(x, Tell.BOX, 0, 0, 1), 2), 400);
        Check.same("that is due behind all", x.due(4), 406);
    }
}
