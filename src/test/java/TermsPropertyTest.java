/** Terms, 'Property, laws': years, states, kinds, laws, holders, owners, items. */
public final class TermsPropertyTest {
    public static void main(String[] args) {
        Check.run(TermsPropertyTest::calls512, TermsPropertyTest::yearsAreCountedFrom0, TermsPropertyTest::states0To4,
            TermsPropertyTest::kindsAreToldByWords, TermsPropertyTest::kindsAreNumbered,
            TermsPropertyTest::kindsSleepAtFirst, TermsPropertyTest::lawFromNowOn,
            TermsPropertyTest::lawForItsYearOrLater, TermsPropertyTest::lawUntilAnotherOne,
            TermsPropertyTest::lawToldLastOfAYear, TermsPropertyTest::holdersAtMost6, TermsPropertyTest::ownersAtMost8,
            TermsPropertyTest::addressOfEachYear, TermsPropertyTest::itemsAtMost24, TermsPropertyTest::whatAnItemHas,
            TermsPropertyTest::stateOfAnOwnersItem, TermsPropertyTest::stateOfNobodysItem,
            TermsPropertyTest::dueInTheYear);
        Doc.quotedWhole("Property, laws");
        Check.end("TermsPropertyTest");
    }

    private static void says(String sentence) {
        Doc.says("Property, laws", sentence);
    }

    private static void calls512() {
        Doc.says("What it is", "An object is used for at most 512 calls after it has been made; what later calls answer is free.");
        Escheatry x = new Escheatry();
        x.holder(0);
        Tell.item(x, Tell.BOX, 0, Tell.NONE, 1);
        for (int call = 6; call <= 512; call++) {
            Check.same("call " + call, x.send(0), call - 5);
        }
        Escheatry y = new Escheatry();
        y.holder(0);
        y.owner(0);
        Tell.item(y, Tell.BOX, 0, Tell.NONE, 10000);
        for (int year = 0; year < 160; year++) {
            y.law(0, Tell.BOX, (year + 7) % 21);
            y.move(0, year % 5);
            y.pass(1);
        }
        Check.same("by the first of 160 laws", y.due(0), 7);
        Check.same("by the last of 160 laws", y.law(0, Tell.BOX, 1), 166 % 21);
        Check.same("the last of 160 addresses", y.move(0, 1), 159 % 5);
    }

    private static void yearsAreCountedFrom0() {
        says("Years are counted from 0.");
        Escheatry x = Tell.place();
        Check.same("year", x.year(), 0);
        Check.same("told in it", x.about(Tell.item(x, Tell.BOX, 0, 0, 50), 2), 0);
        x.pass(1);
        Check.same("the year behind it", x.year(), 1);
        Check.same("told in that", x.about(Tell.item(x, Tell.BOX, 0, 0, 50), 2), 1);
    }

    private static void states0To4() {
        says("There are the states 0 to 4.");
        Escheatry x = new Escheatry();
        for (int s = 0; s <= 4; s++) {
            Check.same("a holder's home " + s, x.holder(s), s);
            Check.same("an owner's address " + s, x.owner(s), s);
            Check.same("an item in " + s, x.about(Tell.item(x, Tell.BOX, s, Tell.NONE, 1), 3), s);
            Check.same("a law of " + s, x.law(s, Tell.BOX, 7), 6);
            Check.same("a move to " + s, x.move(0, s), s == 0 ? 0 : s - 1);
            Check.same("a purse of " + s, x.purse(s) + x.purseAnew(s), 0);
        }
        for (int none : Check.outside(0, 4)) {
            Check.refused("holder in " + none, Check.INDEX, Tell.PLACE, y -> y.holder(none));
            Check.refused("owner in " + none, Check.INDEX, Tell.PLACE, y -> y.owner(none));
            Check.refused("law of " + none, Check.INDEX, Tell.PLACE, y -> y.law(none, 0, 1));
            Check.refused("move to " + none, Check.INDEX, Tell.PLACE, y -> y.move(0, none));
            Check.refused("purse of " + none, Check.INDEX, Tell.PLACE, y -> y.purse(none));
            Check.refused("purseAnew of " + none, Check.INDEX, Tell.PLACE, y -> y.purseAnew(none));
        }
    }

    private static void kindsAreToldByWords() {
        says("Kinds are told by words: account, cheque, share, box, wage, card;");
        Escheatry x = Tell.place();
        for (int k = 0; k < 6; k++) {
            Tell.type(x, Tell.WORDS[k]);
            Check.same(Tell.WORDS[k], x.item(0, 0, 1), k);
            Check.same("due of " + Tell.WORDS[k], x.due(k), Tell.FIRST_SLEEPS[k]);
        }
        String[] none = {"", "a", "accoun", "ccount", "acount", "chequ", "heque", "cheques", "check", "shar", "hare", "shares",
            "bo", "ox", "boxx", "xbox", "xob", "wag", "age", "wages", "car", "ard", "cards", "cart", "zzzzzzz", "cardbox"};
        for (String word : none) {
            Tell.type(x, word);
            Check.same("'" + word + "'", x.item(0, 0, 1), -1);
        }
    }

    private static void kindsAreNumbered() {
        says("they are numbered 0 to 5 in this order,");
        Escheatry x = Tell.place();
        for (int k = 0; k <= 5; k++) {
            x.law(2, k, 10 + k);
        }
        for (int k = 0; k <= 5; k++) {
            Check.same(Tell.WORDS[k] + " by the law of " + k, x.due(Tell.item(x, k, 0, 0, 1)), 10 + k);
        }
        for (int none : Check.outside(0, 5)) {
            Check.refused("law of the kind " + none, Check.INDEX, Tell.PLACE, y -> y.law(2, none, 1));
        }
    }

    private static void kindsSleepAtFirst() {
        says("and sleep 5, 3, 4, 6, 1 and 2 years at first, in each state.");
        for (int s = 0; s < 5; s++) {
            Escheatry x = new Escheatry();
            x.holder(s);
            for (int k = 0; k < 6; k++) {
                int item = Tell.item(x, k, 0, Tell.NONE, 1);
                Check.same("due in " + s, x.due(item), Tell.FIRST_SLEEPS[k]);
                Check.same("law of " + s, x.law(s, k, 0), Tell.FIRST_SLEEPS[k]);
            }
        }
    }

    private static void lawFromNowOn() {
        says("A law of a state lets a kind sleep so many years from now on;");
        Escheatry x = Tell.place();
        x.pass(3);
        x.law(1, Tell.CARD, 9);
        Check.same("now", x.due(Tell.item(x, Tell.CARD, 1, Tell.NONE, 100)), 12);
        Check.same("in another state", x.due(Tell.item(x, Tell.CARD, 0, Tell.NONE, 100)), 5);
        Check.same("of another kind", x.due(Tell.item(x, Tell.WAGE, 1, Tell.NONE, 100)), 4);
        x.pass(1);
        Check.same("a year later", x.due(Tell.item(x, Tell.CARD, 1, Tell.NONE, 100)), 13);
        Tell.until(x, 400);
        Check.same("in the last year", x.due(Tell.item(x, Tell.CARD, 1, Tell.NONE, 100)), 409);
        Escheatry y = Tell.place();
        y.law(1, Tell.CARD, 0);
        Check.same("no year at all", y.due(Tell.item(y, Tell.CARD, 1, Tell.NONE, 100)), 0);
        y.law(1, Tell.CARD, 20);
        Check.same("as many as can be", y.due(0), 20);
    }

    private static void lawForItsYearOrLater() {
        says("it counts for what was last touched in its year or later,");
        Escheatry x = Tell.place();
        Tell.until(x, 4);
        Tell.item(x, Tell.CARD, 0, 0, 100);
        Tell.item(x, Tell.CARD, 0, 1, 100);
        x.law(3, Tell.CARD, 8);
        x.pass(1);
        Tell.item(x, Tell.CARD, 0, 0, 100);
        x.law(2, Tell.CARD, 7);
        Tell.item(x, Tell.CARD, 0, 0, 100);
        x.pass(1);
        Tell.item(x, Tell.CARD, 0, 0, 100);
        Check.same("touched in the year ahead of the law's", x.due(0), 6);
        Check.same("touched in the year of another state's law", x.due(1), 12);
        Check.same("touched in its year, told ahead of it", x.due(2), 12);
        Check.same("touched in its year, told behind it", x.due(3), 12);
        Check.same("touched in the year behind its", x.due(4), 13);
        x.contact(0, 0);
        Check.same("touched again", x.due(0), 13);
    }

    private static void lawUntilAnotherOne() {
        says("until there is another one;");
        Escheatry x = Tell.place();
        int[] sleeps = {8, 8, 3, 3, 3, 11, 11};
        for (int year = 0; year < sleeps.length; year++) {
            if (year == 0 || sleeps[year] != sleeps[year - 1]) {
                x.law(2, Tell.BOX, sleeps[year]);
            }
            Tell.item(x, Tell.BOX, 0, 0, 100);
            x.pass(1);
        }
        for (int year = 0; year < sleeps.length; year++) {
            Check.same("told in " + year, x.due(year), year + sleeps[year]);
            Check.same("told in " + year + ", anew", x.dueAnew(year), year + sleeps[year]);
        }
    }

    private static void lawToldLastOfAYear() {
        says("of several of one year the last one told.");
        Escheatry x = Tell.place();
        x.law(2, Tell.BOX, 9);
        x.law(2, Tell.BOX, 4);
        Tell.item(x, Tell.BOX, 0, 0, 100);
        Check.same("of the year 0", x.due(0), 4);
        x.pass(1);
        Check.same("still", x.law(2, Tell.BOX, 20), 4);
        Check.same("the first of the year 1", x.law(2, Tell.BOX, 0), 20);
        Check.same("the second", x.law(2, Tell.BOX, 13), 0);
        Tell.item(x, Tell.BOX, 0, 0, 100);
        Check.same("of the year 1", x.due(1), 14);
        Check.same("not for what was touched ahead", x.due(0), 4);
        x.law(2, Tell.BOX, 2);
        Check.same("told behind the item", x.due(1), 3);
    }

    private static void holdersAtMost6() {
        says("Holders are numbered from 0, at most 6, each with a home, a state;");
        Escheatry x = new Escheatry();
        int[] homes = {4, 0, 3, 1, 2, 4};
        for (int number = 0; number < 6; number++) {
            Check.same("holder", x.holder(homes[number]), number);
        }
        for (int number = 0; number < 6; number++) {
            Check.same("home of " + number, x.about(Tell.item(x, Tell.BOX, number, Tell.NONE, 1), 3), homes[number]);
        }
        Check.Story six = y -> {
            for (int home : homes) {
                y.holder(home);
            }
        };
        Check.refused("the seventh", Check.STATE, six, y -> y.holder(0));
    }

    private static void ownersAtMost8() {
        says("owners from 0, at most 8, each with an address, a state, from the year on in which they are told,");
        Escheatry x = new Escheatry();
        x.holder(0);
        int[] addresses = {4, 0, 3, 1, 2, 4, 1, 3};
        for (int number = 0; number < 8; number++) {
            Check.same("owner", x.owner(addresses[number]), number);
            Check.same("address in the year told", x.about(Tell.item(x, Tell.BOX, 0, number, 1000), 3), addresses[number]);
            x.pass(1);
        }
        for (int number = 0; number < 8; number++) {
            Check.same("address later", x.about(Tell.item(x, Tell.BOX, 0, number, 1000), 3), addresses[number]);
        }
        Check.Story eight = y -> {
            for (int address : addresses) {
                y.owner(address);
            }
        };
        Check.refused("the ninth", Check.STATE, eight, y -> y.owner(0));
    }

    private static void addressOfEachYear() {
        says("and another one from each year in which they move;");
        Escheatry x = Tell.place();
        int[] addresses = {2, 1, 4, 4, 0};
        for (int year = 0; year < 5; year++) {
            if (year > 0 && year != 3) {
                Check.same("before", x.move(0, addresses[year]), addresses[year - 1]);
            }
            Tell.item(x, Tell.BOX, 0, 0, 1000);
            Tell.item(x, Tell.BOX, 0, 1, 1000);
            x.pass(1);
        }
        for (int year = 0; year < 5; year++) {
            Check.same("touched in " + year, x.about(2 * year, 3), addresses[year]);
            Check.same("the other owner's", x.about(2 * year + 1, 3), 3);
        }
    }

    private static void itemsAtMost24() {
        says("items from 0, at most 24:");
        Escheatry x = Tell.place();
        for (int number = 0; number < 24; number++) {
            Check.same("item", Tell.item(x, Tell.BOX, number % 2, number % 3 - 1, 1), number);
        }
        Check.refused("the 25th", Check.STATE, y -> {
            Tell.PLACE.tell(y);
            Tell.items(y, 24, Tell.BOX, 0, 0, 1);
            Tell.type(y, "box");
        }, y -> y.item(0, 0, 1));
    }

    private static void whatAnItemHas() {
        says("each is of a kind, at a holder, of an owner, or of nobody known, has an amount, 1 to 10000, "
            + "and was touched last in the year in which it is told.");
        int[] years = {0, 7, 400};
        Escheatry x = Tell.place();
        for (int at = 0; at < 3; at++) {
            Tell.until(x, years[at]);
            Tell.item(x, Tell.BOX, 1, 0, 1);
            Tell.item(x, Tell.CARD, 0, Tell.NONE, 10000);
            int[][] about = {{0, 1, years[at], 2, 1, 0, 0}, {0, 10000, years[at], 0, 0, 0, 0}};
            for (int what = 0; what <= 6; what++) {
                Check.same("about " + what, x.about(2 * at, what), about[0][what]);
                Check.same("nobody's, about " + what, x.about(2 * at + 1, what), about[1][what]);
            }
            Check.same("due", x.due(2 * at), years[at] + 6);
            Check.same("nobody's, due", x.due(2 * at + 1), years[at] + 2);
        }
        for (int none : Check.outside(1, 10000)) {
            Check.refused("amount " + none, Check.ARGUMENT, Tell.PLACE.then(y -> Tell.type(y, "box")), y -> y.item(0, 0, none));
        }
    }

    private static void stateOfAnOwnersItem() {
        says("The state of an item is that of the address which its owner had in the year in which it was touched last, "
            + "of several in that year the last one;");
        Escheatry x = Tell.place();
        Tell.item(x, Tell.BOX, 0, 0, 1000);
        Check.same("at first", x.about(0, 3), 2);
        x.move(0, 4);
        x.move(0, 1);
        Check.same("the last one in the year", x.about(0, 3), 1);
        x.pass(1);
        x.move(0, 0);
        Check.same("not one of the year behind", x.about(0, 3), 1);
        x.contact(0, 0);
        Check.same("touched there", x.about(0, 3), 0);
        x.move(0, 3);
        Check.same("moved on in that year", x.about(0, 3), 3);
        x.pass(1);
        x.move(0, 2);
        x.death(0);
        Check.same("when the owner is dead", x.about(0, 3), 3);
        x.merge(0, 1);
        Check.same("at another holder", x.about(0, 3), 3);
        Check.same("told of a dead one", x.about(Tell.item(x, Tell.BOX, 1, 0, 1), 3), 2);
    }

    private static void stateOfNobodysItem() {
        says("for nobody known the home of the holder that has it now, as long as it is HELD.");
        Escheatry x = Tell.place();
        x.holder(4);
        x.holder(3);
        x.law(4, Tell.CARD, 3);
        Tell.item(x, Tell.CARD, 0, Tell.NONE, 49);
        Check.same("home", x.about(0, 3), 0);
        Check.same("due by the law of that", x.due(0), 2);
        x.merge(0, 1);
        Check.same("home of the other one", x.about(0, 3), 1);
        x.merge(1, 2);
        Check.same("home of a third", x.about(0, 3), 4);
        Check.same("due by the law of that", x.due(0), 3);
        Check.same("not reported by the law of the first", x.pass(2), 0);
        Check.same("reported", x.pass(1), 1);
        x.merge(2, 3);
        Check.same("PAID, at a holder with another home", x.about(0, 4), 3);
        Check.same("PAID, state", x.about(0, 3), 4);
        Check.same("PAID, due", x.due(0), 3);
        Check.same("PAID, due anew", x.dueAnew(0), 3);
    }

    private static void dueInTheYear() {
        says("It is due in the year that is as many behind that in which it was touched last as its kind sleeps "
            + "by the law of its state that counts for that.");
        for (int year : new int[] {0, 1, 400}) {
            for (int sleep : new int[] {0, 1, 20}) {
                Escheatry x = Tell.place();
                Tell.until(x, year);
                x.law(3, Tell.SHARE, sleep);
                Tell.item(x, Tell.SHARE, 0, 1, 50);
                Check.same("told in " + year + ", sleeps " + sleep, x.due(0), year + sleep);
                Check.same("waited for", x.dueAnew(0), year + sleep);
            }
        }
        Escheatry x = Tell.place();
        x.law(2, Tell.BOX, 9);
        x.law(4, Tell.BOX, 14);
        Tell.item(x, Tell.BOX, 0, 0, 50);
        x.pass(1);
        x.law(2, Tell.BOX, 1);
        x.move(0, 4);
        x.law(4, Tell.BOX, 2);
        Check.same("by what counts for when it was touched", x.due(0), 9);
        x.contact(0, 0);
        Check.same("anew", x.due(0), 3);
    }
}
