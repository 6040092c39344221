/** Promises 1 to 9: a new object, letter, holder, owner, item, law, move, death, heir. */
public final class TellingTest {
    /** A holder that merged into another one, owners of whom one is dead, a word half typed. */
    private static final Check.Story SOME = Tell.PLACE.then(x -> {
        x.holder(4);
        x.merge(2, 0);
        x.owner(4);
        x.death(2);
        Tell.type(x, "box");
    });

    public static void main(String[] args) {
        Check.run(TellingTest::newObject, TellingTest::letter, TellingTest::holder, TellingTest::owner,
            TellingTest::item, TellingTest::itemRefused, TellingTest::law, TellingTest::move, TellingTest::death,
            TellingTest::heir);
        for (int number = 1; number <= 9; number++) {
            Doc.quotedWhole("Promise " + number);
        }
        Check.end("TellingTest");
    }

    private static void newObject() {
        Doc.promise(1, "Begins in the year 0, without holders, owners and items.");
        Escheatry x = new Escheatry();
        Check.same("year", x.year(), 0);
        Check.same("finders", x.finders(), 0);
        for (int s = 0; s < 5; s++) {
            Check.same("purse", x.purse(s), 0);
            Check.same("purseAnew", x.purseAnew(s), 0);
        }
        Check.refused("no holder", Check.INDEX, Tell.NOTHING, y -> y.fined(0));
        Check.refused("no owner", Check.INDEX, Tell.NOTHING, y -> y.death(0));
        Check.refused("no item", Check.INDEX, Tell.NOTHING, y -> y.due(0));
        Check.same("years go by without any", x.pass(20), 0);
        Check.same("nothing is typed", x.letter('b'), 1);
        Check.same("the first holder", x.holder(4), 0);
        Check.same("the first owner", x.owner(4), 0);
        Tell.type(x, "ox");
        Check.same("the first item", x.item(0, 0, 1), 0);
        Escheatry another = new Escheatry();
        Check.same("another object has its own years", another.year(), 0);
        Check.same("another object has its own holders", another.holder(0), 0);
        Check.same("another object has its own owners", another.owner(0), 0);
        Check.same("another object has its own word and items", Tell.item(another, Tell.CARD, 0, 0, 1), 0);
    }

    private static void letter() {
        Doc.promise(2, "Adds a letter to the word that is typed.");
        Escheatry x = Tell.place();
        Tell.type(x, "ca");
        x.pass(1);
        x.contact(0, 0);
        Tell.type(x, "rd");
        Check.same("card, with other calls between", x.item(0, 0, 1), 0);
        Tell.type(x, "drac");
        Check.same("in the order typed", x.item(0, 0, 1), -1);

        Doc.promise(2, "- `letter`: a to z");
        Check.same("a", new Escheatry().letter('a'), 1);
        Check.same("z", new Escheatry().letter('z'), 1);
        for (char letter = 'a'; letter <= 'z'; letter++) {
            Check.same("letter", new Escheatry().letter(letter), 1);
        }

        Doc.promise(2, "Returns how many it has then.");
        Escheatry y = Tell.place();
        for (int count = 1; count <= 7; count++) {
            Check.same("letter", y.letter('m'), count);
        }
        y.item(0, 0, 1);
        Check.same("behind an item", y.letter('m'), 1);

        Doc.promise(2, "Throws `IllegalArgumentException` if letter is none of these");
        char[] none = {'a' - 1, 'z' + 1, 'A', 'Z', '0', ' ', '-', 0, 127, 'a' + 128, 'a' + 256, 233, 0x430, 0xff41, 0xffff};
        for (char letter : none) {
            Check.refused("the sign " + (int) letter, Check.ARGUMENT, Tell.NOTHING, z -> z.letter(letter));
            Check.refused("the sign " + (int) letter + " in a word", Check.ARGUMENT, SOME, z -> z.letter(letter));
        }

        Doc.promise(2, "Throws `IllegalStateException` if it has 7");
        Check.Story seven = Tell.PLACE.then(z -> Tell.type(z, "account"));
        Check.refused("the eighth", Check.STATE, seven, z -> z.letter('s'));
        Check.same("the word is as it was", Check.after(seven.then(z -> Check.thrownBy(() -> z.letter('s')))).item(0, 0, 1), 0);
        Check.same("the seventh", Check.after(Tell.PLACE.then(z -> Tell.type(z, "accoun"))).letter('t'), 7);
    }

    private static void holder() {
        Doc.promise(3, "Tells a holder.");
        Escheatry x = new Escheatry();
        x.holder(3);
        Check.same("not fined", x.fined(0), 0);
        Check.same("without items", x.audit(0, 1), 0);
        Check.same("its home", x.about(Tell.item(x, Tell.BOX, 0, Tell.NONE, 1), 3), 3);

        Doc.promise(3, "Returns the number.");
        Escheatry y = new Escheatry();
        for (int number = 0; number < 6; number++) {
            Check.same("number", y.holder(4 - number % 5), number);
        }

        Doc.promise(3, "Throws `IndexOutOfBoundsException` as told, of the state");
        for (int none : Check.outside(0, 4)) {
            Check.refused("home " + none, Check.INDEX, Tell.NOTHING, z -> z.holder(none));
        }

        Doc.promise(3, "Throws `IllegalStateException` if there are 6");
        Check.Story five = z -> {
            for (int number = 0; number < 5; number++) {
                z.holder(0);
            }
        };
        Check.same("the sixth", Check.after(five).holder(4), 5);
        Check.refused("the seventh", Check.STATE, five.then(z -> z.holder(0)), z -> z.holder(0));
        Check.refused("one that merged is one of the 6", Check.STATE, five.then(z -> {
            z.holder(0);
            z.merge(5, 0);
        }), z -> z.holder(0));
    }

    private static void owner() {
        Doc.promise(4, "Tells an owner.");
        Escheatry x = Tell.place();
        Check.same("with an address", x.move(x.owner(4), 0), 4);
        Check.same("without items", x.contact(2, 0), 0);
        Check.same("without heirs", x.heir(2, 0), true);
        x.death(2);
        Check.same("who lived", Check.thrownBy(() -> x.death(2)), "IllegalStateException");

        Doc.promise(4, "Returns the number.");
        Escheatry y = new Escheatry();
        for (int number = 0; number < 8; number++) {
            Check.same("number", y.owner(4 - number % 5), number);
        }

        Doc.promise(4, "Throws `IndexOutOfBoundsException` as told, of the state");
        for (int none : Check.outside(0, 4)) {
            Check.refused("address " + none, Check.INDEX, Tell.NOTHING, z -> z.owner(none));
        }

        Doc.promise(4, "Throws `IllegalStateException` if there are 8");
        Check.Story seven = z -> {
            for (int number = 0; number < 7; number++) {
                z.owner(0);
            }
        };
        Check.same("the eighth", Check.after(seven).owner(4), 7);
        Check.refused("the ninth", Check.STATE, seven.then(z -> z.owner(0)), z -> z.owner(0));
        Check.refused("a dead one is one of the 8", Check.STATE, seven.then(z -> {
            z.owner(0);
            z.death(0);
        }), z -> z.owner(0));
    }

    private static void item() {
        Doc.promise(5, "Tells an item, of the kind whose word is typed; nothing is typed then, also if the word is no kind.");
        Escheatry x = Tell.place();
        for (int k = 0; k < 6; k++) {
            Tell.type(x, Tell.WORDS[k]);
            Check.same("due of " + Tell.WORDS[k], x.due(x.item(0, 0, 1)), Tell.FIRST_SLEEPS[k]);
            Check.same("nothing is typed", x.item(0, 0, 1), -1);
        }
        Tell.type(x, "boxes");
        x.item(0, 0, 1);
        Check.same("nothing is typed also then", x.letter('b'), 1);
        Tell.type(x, "ox");
        Check.same("the next word", x.item(0, 0, 1), 6);

        Doc.promise(5, "- `owner`: an owner, or NONE for nobody known");
        Check.same("the first owner", x.about(Tell.item(x, Tell.BOX, 1, 0, 1), 3), 2);
        Check.same("the last owner", x.about(Tell.item(x, Tell.BOX, 1, 1, 1), 3), 3);
        Check.same("nobody known", x.about(Tell.item(x, Tell.BOX, 1, -1, 1), 3), 1);
        x.death(1);
        Check.same("an owner who is dead", x.about(Tell.item(x, Tell.BOX, 1, 1, 1), 3), 3);

        Doc.promise(5, "- `amount`: 1 to 10000");
        for (int amount : new int[] {1, 2, 9999, 10000}) {
            Check.same("amount", x.about(Tell.item(x, Tell.BOX, 0, 0, amount), 1), amount);
        }

        Doc.promise(5, "Returns its number; NONE if the word is no kind.");
        Escheatry y = Tell.place();
        Check.same("without a word", y.item(0, 0, 1), Escheatry.NONE);
        for (int number = 0; number < 24; number++) {
            Check.same("number", Tell.item(y, number % 6, 0, 0, 1), number);
            if (number < 23) {
                Tell.type(y, "x");
                Check.same("no kind", y.item(0, 0, 1), Escheatry.NONE);
            }
        }
    }

    private static void itemRefused() {
        Doc.promise(5, "Throws `IndexOutOfBoundsException` as told, of the holder or the owner");
        for (int none : Check.outside(0, 2)) {
            Check.refused("holder " + none, Check.INDEX, SOME, x -> x.item(none, 0, 1));
        }
        for (int none : Check.outside(-1, 2)) {
            Check.refused("owner " + none, Check.INDEX, SOME, x -> x.item(0, none, 1));
        }
        Check.refused("also if the word is no kind", Check.INDEX, SOME.then(x -> x.letter('x')), x -> x.item(3, 0, 1));

        Doc.promise(5, "Throws `IllegalArgumentException` if amount is out of range");
        for (int none : new int[] {0, -1, 10001, Integer.MIN_VALUE, Integer.MAX_VALUE, 65537}) {
            Check.refused("amount " + none, Check.ARGUMENT, SOME, x -> x.item(0, 0, none));
        }
        Check.refused("also if the word is no kind", Check.ARGUMENT, SOME.then(x -> x.letter('x')), x -> x.item(0, 0, 0));

        Doc.promise(5, "Throws `IllegalStateException` if there are 24, or the holder has merged into another one");
        Check.Story full = Tell.PLACE.then(x -> Tell.items(x, 24, Tell.BOX, 0, 0, 1));
        Check.refused("the 25th", Check.STATE, full.then(x -> Tell.type(x, "card")), x -> x.item(1, 0, 1));
        Check.refused("the 25th, without a word", Check.STATE, full, x -> x.item(1, 0, 1));
        Check.refused("the 25th, some are PAID", Check.STATE, full.then(x -> {
            x.pass(20);
            x.claim(0, 0, false);
            Tell.type(x, "box");
        }), x -> x.item(1, 0, 1));
        Check.refused("merged", Check.STATE, SOME, x -> x.item(2, 0, 1));
        Check.refused("merged, no kind", Check.STATE, SOME.then(x -> x.letter('x')), x -> x.item(2, 0, 1));
        Check.same("the word is typed still", Check.after(SOME.then(x -> Check.thrownBy(() -> x.item(2, 0, 1)))).item(0, 0, 1), 0);
        Check.same("the one into which it merged", Check.after(SOME).item(0, 0, 1), 0);
    }

    private static void law() {
        Doc.promise(6, "Tells a law from this year on.");
        Escheatry x = Tell.place();
        Tell.item(x, Tell.BOX, 0, 0, 100);
        x.pass(1);
        Tell.item(x, Tell.BOX, 0, 0, 100);
        x.law(2, Tell.BOX, 11);
        x.pass(1);
        Tell.item(x, Tell.BOX, 0, 0, 100);
        Check.same("not in the year ahead", x.due(0), 6);
        Check.same("in this year", x.due(1), 12);
        Check.same("in the next one", x.due(2), 13);

        Doc.promise(6, "- `years`: 0 to 20");
        for (int years : new int[] {0, 1, 19, 20}) {
            x.law(2, Tell.BOX, years);
            Check.same("years", x.due(2), 2 + years);
        }

        Doc.promise(6, "Returns how many years the kind slept there by the one before.");
        for (int s = 0; s < 5; s++) {
            for (int k = 0; k < 6; k++) {
                Escheatry y = new Escheatry();
                Check.same("the first", y.law(s, k, 20), Tell.FIRST_SLEEPS[k]);
                Check.same("of the same year", y.law(s, k, 0), 20);
                y.pass(1);
                Check.same("of the year ahead", y.law(s, k, 7), 0);
                y.pass(20);
                Check.same("of long ago", y.law(s, k, 7), 7);
                Check.same("in another state", y.law((s + 1) % 5, k, 1), Tell.FIRST_SLEEPS[k]);
                Check.same("another kind", y.law(s, (k + 1) % 6, 1), Tell.FIRST_SLEEPS[(k + 1) % 6]);
            }
        }

        Doc.promise(6, "Throws `IndexOutOfBoundsException` as told, of the state or the kind");
        for (int none : Check.outside(0, 4)) {
            Check.refused("state " + none, Check.INDEX, SOME, z -> z.law(none, 0, 1));
        }
        for (int none : Check.outside(0, 5)) {
            Check.refused("kind " + none, Check.INDEX, SOME, z -> z.law(0, none, 1));
        }
        Check.refused("a kind that would reach into the next state", Check.INDEX, SOME, z -> z.law(0, 11, 1));
        Check.refused("a kind that would reach into the state before", Check.INDEX, SOME, z -> z.law(1, -6, 1));

        Doc.promise(6, "Throws `IllegalArgumentException` if years is out of range");
        for (int none : Check.outside(0, 20)) {
            Check.refused("years " + none, Check.ARGUMENT, SOME, z -> z.law(4, 5, none));
        }
    }

    private static void move() {
        Doc.promise(7, "Lets an owner move.");
        Escheatry x = Tell.place();
        x.move(0, 4);
        Check.same("moved", x.about(Tell.item(x, Tell.BOX, 0, 0, 1), 3), 4);
        Check.same("the other one has not", x.about(Tell.item(x, Tell.BOX, 0, 1, 1), 3), 3);

        Doc.promise(7, "Returns the state before.");
        Check.same("in the same year", x.move(0, 0), 4);
        Check.same("to where one is", x.move(0, 0), 0);
        x.pass(3);
        Check.same("in a later year", x.move(0, 1), 0);
        Check.same("that of the other one", x.move(1, 1), 3);
        Tell.until(x, 400);
        Check.same("in the last year", x.move(0, 2), 1);

        Doc.promise(7, "Throws `IndexOutOfBoundsException` as told, of the owner or the state");
        for (int none : Check.outside(0, 2)) {
            Check.refused("owner " + none, Check.INDEX, SOME, y -> y.move(none, 0));
        }
        for (int none : Check.outside(0, 4)) {
            Check.refused("state " + none, Check.INDEX, SOME, y -> y.move(0, none));
        }

        Doc.promise(7, "Throws `IllegalStateException` if the owner is dead");
        Check.refused("dead", Check.STATE, SOME, y -> y.move(2, 0));
        Check.refused("dead, to where one is", Check.STATE, SOME, y -> y.move(2, 4));
        Check.same("one who lives", Check.after(SOME).move(1, 0), 3);
    }

    private static void death() {
        Doc.promise(8, "Tells that an owner is dead.");
        Escheatry x = Tell.place();
        Tell.item(x, Tell.WAGE, 0, 0, 9);
        x.heir(0, 1);
        x.death(0);
        x.pass(1);
        Check.same("an heir can claim", x.claim(1, 0, false), 9);
        Check.same("another one lives", x.move(1, 4), 3);

        Doc.promise(8, "Throws `IndexOutOfBoundsException` as told");
        for (int none : Check.outside(0, 2)) {
            Check.refused("owner " + none, Check.INDEX, SOME, y -> y.death(none));
        }

        Doc.promise(8, "Throws `IllegalStateException` if the owner is dead");
        Check.refused("dead", Check.STATE, SOME, y -> y.death(2));
        Check.refused("dead for years", Check.STATE, SOME.then(y -> y.pass(20)), y -> y.death(2));
        Check.refused("all of them", Check.STATE, SOME.then(y -> {
            y.death(0);
            y.death(1);
        }), y -> y.death(0));
    }

    private static void heir() {
        Doc.promise(9, "Tells that an owner is an heir of another one.");
        Escheatry x = Tell.place();
        Tell.items(x, 2, Tell.WAGE, 0, 0, 9);
        x.heir(0, 1);
        x.pass(1);
        x.death(0);
        Check.same("can claim", x.claim(1, 0, false), 9);
        x.heir(0, 1);
        Check.same("told again, an heir still", x.claim(1, 1, false), 9);

        Doc.promise(9, "Returns whether it was not so.");
        Check.Story all = y -> {
            for (int owner = 0; owner < 8; owner++) {
                y.owner(0);
            }
        };
        Escheatry y = Check.after(all);
        for (int owner = 0; owner < 8; owner++) {
            for (int heir = 0; heir < 8; heir++) {
                if (owner != heir) {
                    Check.same(heir + " of " + owner, y.heir(owner, heir), true);
                    Check.same(heir + " of " + owner + " again", y.heir(owner, heir), false);
                }
            }
        }
        Escheatry dead = Check.after(SOME);
        Check.same("of a dead one", dead.heir(2, 0), true);
        Check.same("a dead one", dead.heir(0, 2), true);
        Check.same("a dead one again", dead.heir(0, 2), false);

        Doc.promise(9, "Throws `IndexOutOfBoundsException` as told, of both");
        for (int none : Check.outside(0, 7)) {
            Check.refused("owner " + none, Check.INDEX, all, z -> z.heir(none, 0));
            Check.refused("heir " + none, Check.INDEX, all, z -> z.heir(0, none));
        }
        for (int none : new int[] {8, 31, 32, 33, 40, 64}) {
            Check.refused("heir " + none + " of 8", Check.INDEX, all, z -> z.heir(0, none));
        }

        Doc.promise(9, "Throws `IllegalArgumentException` if both are the same");
        for (int owner = 0; owner < 8; owner++) {
            int same = owner;
            Check.refused("of oneself, " + owner, Check.ARGUMENT, all, z -> z.heir(same, same));
        }
        Check.refused("a dead one of oneself", Check.ARGUMENT, SOME, z -> z.heir(2, 2));
    }
}
