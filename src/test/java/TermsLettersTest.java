/** Terms, 'Contacts, letters': contacts, letters, reports, fines, shares, mergers. */
public final class TermsLettersTest {
    /** Two wages of owner 0 and one of nobody's are PAID, the second one CLAIMED; boxes are HELD; it is the year 1. */
    private static final Check.Story SOME_PAID = Tell.PLACE.then(x -> {
        Tell.item(x, Tell.WAGE, 0, 0, 49);
        Tell.item(x, Tell.WAGE, 0, 0, 40);
        Tell.item(x, Tell.WAGE, 0, Tell.NONE, 30);
        Tell.item(x, Tell.BOX, 0, 0, 100);
        Tell.item(x, Tell.BOX, 0, 1, 100);
        Tell.item(x, Tell.BOX, 1, 0, 100);
        Tell.item(x, Tell.BOX, 0, Tell.NONE, 100);
        Tell.item(x, Tell.SHARE, 0, 0, 10000);
        x.pass(1);
        x.claim(0, 1, false);
    });

    public static void main(String[] args) {
        Check.run(TermsLettersTest::contactTouches, TermsLettersTest::letterCosts2, TermsLettersTest::whenAYearBegins,
            TermsLettersTest::amountBelow50, TermsLettersTest::letterOfTheYearAhead,
            TermsLettersTest::paidLessTheLetters, TermsLettersTest::neverTouchedAgain, TermsLettersTest::finedOtherwise,
            TermsLettersTest::sharesWorthTwice, TermsLettersTest::noneAbove1000000, TermsLettersTest::mergedHasNoItems);
        Doc.quotedWhole("Contacts, letters");
        Check.end("TermsLettersTest");
    }

    private static void says(String sentence) {
        Doc.says("Contacts, letters", sentence);
    }

    private static void contactTouches() {
        says("A contact of an owner who lives with a holder touches all items of that owner there that are HELD.");
        Escheatry x = Check.after(SOME_PAID);
        x.pass(1);
        Check.same("two that are HELD", x.contact(0, 0), 2);
        int[] touched = {0, 0, 0, 2, 0, 0, 0, 2};
        for (int item = 0; item < touched.length; item++) {
            Check.same("touched " + item, x.about(item, 2), touched[item]);
        }
        Check.same("due anew", x.due(3), 8);
        Check.same("in the same year once more", x.contact(0, 0), 2);
        Check.same("with none there", x.contact(1, 1), 0);
        Check.refused("a dead one's", Check.STATE, SOME_PAID.then(y -> {
            y.pass(1);
            y.death(0);
        }), y -> y.contact(0, 0));
        Escheatry full = Tell.place();
        Tell.items(full, 24, Tell.BOX, 0, 0, 100);
        full.pass(3);
        Check.same("all 24", full.contact(0, 0), 24);
        Check.same("the first of them", full.about(0, 2), 3);
        Check.same("the last of them", full.about(23, 2), 3);
        Check.same("with none told", Tell.place().contact(0, 0), 0);
    }

    private static void letterCosts2() {
        says("A letter for an item that is HELD is sent in a year; it costs 2, each.");
        for (int letters = 0; letters <= 3; letters++) {
            Escheatry x = Tell.place();
            Tell.item(x, Tell.CARD, 0, 0, 40);
            Tell.item(x, Tell.CARD, 0, 0, 40);
            for (int sent = 1; sent <= letters; sent++) {
                Check.same("sent", x.send(0), sent);
                if (sent == 2) {
                    x.pass(1);
                    x.contact(0, 0);
                }
            }
            x.pass(2);
            Check.same(letters + " letters cost", x.about(0, 5), 40 - 2 * letters);
            Check.same("none for the other", x.about(1, 5), 40);
        }
        Check.refused("for what is PAID", Check.STATE, SOME_PAID, x -> x.send(0));
        Check.refused("for what is CLAIMED", Check.STATE, SOME_PAID, x -> x.send(1));
        Check.refused("for nobody's that is PAID", Check.STATE, SOME_PAID, x -> x.send(2));
    }

    private static void whenAYearBegins() {
        says("When a year begins, each item that is HELD, by numbers, and due in it, or ahead of it:");
        Escheatry x = Tell.place();
        Tell.item(x, Tell.CARD, 0, 0, 40);
        Tell.item(x, Tell.WAGE, 0, 0, 40);
        x.law(3, Tell.BOX, 0);
        Tell.item(x, Tell.BOX, 0, 1, 40);
        Tell.item(x, Tell.CHEQUE, 0, 0, 1000);
        Check.same("none ahead of the next year", x.about(2, 0), 0);
        Check.same("due in the year, and ahead of it", x.pass(1), 2);
        int[] how = {0, 1, 1, 0};
        for (int item = 0; item < 4; item++) {
            Check.same("a year ahead of the first one's, " + item, x.about(item, 0), how[item]);
        }
        Check.same("no fine ahead of its year", x.fined(0), 0);
        Check.same("due in the year", x.pass(1), 1);
        Check.same("no fine in the year ahead", x.fined(0), 0);
        Check.same("none left to report", x.pass(1), 0);
        Check.same("fined in its year", x.fined(0), 50);
        x.send(3);
        Check.same("due a year ago", x.pass(1), 1);
        Check.same("what is PAID is not reported again", x.pass(20), 0);
        Check.same("nor fined", x.fined(0), 50);
        Check.same("nor paid", x.purse(2), 40 + 40 + 998);
        Escheatry full = Tell.place();
        Tell.items(full, 24, Tell.WAGE, 0, 0, 49);
        Check.same("all 24", full.pass(1), 24);
        Check.same("purse", full.purse(2), 24 * 49);
    }

    private static void amountBelow50() {
        says("if its amount is below 50,");
        int[] amounts = {1, 48, 49, 50, 51, 10000};
        for (int amount : amounts) {
            Escheatry x = Tell.place();
            Tell.item(x, Tell.WAGE, 0, 0, amount);
            Check.same("of " + amount, x.pass(1), amount < 50 ? 1 : 0);
            Check.same("of " + amount, x.about(0, 0), amount < 50 ? 1 : 0);
        }
        Escheatry x = Tell.place();
        Tell.item(x, Tell.SHARE, 0, 0, 25);
        Tell.item(x, Tell.SHARE, 0, 0, 24);
        x.split(0);
        Check.same("by the amount that it has now", x.pass(4), 1);
        Check.same("50", x.about(0, 0), 0);
        Check.same("48", x.about(1, 0), 1);
    }

    private static void letterOfTheYearAhead() {
        says("or a letter for it was sent in the year ahead,");
        Escheatry x = Tell.place();
        Tell.items(x, 4, Tell.CHEQUE, 0, 0, 100);
        x.send(0);
        x.pass(1);
        x.send(1);
        x.send(3);
        x.pass(1);
        x.send(2);
        x.send(3);
        Check.same("the year ahead alone counts", x.pass(1), 2);
        int[] how = {0, 0, 1, 1};
        for (int item = 0; item < 4; item++) {
            Check.same("item " + item, x.about(item, 0), how[item]);
        }
        x.send(0);
        Check.same("each for its own", x.pass(1), 1);
        x.contact(0, 0);
        x.send(1);
        Check.same("of the first of many years, due in a later one", x.pass(20), 0);
        x.send(1);
        Check.same("of the first of many years, due in it", x.pass(20), 1);
        Escheatry y = Tell.place();
        Tell.item(y, Tell.WAGE, 0, 0, 100);
        Tell.item(y, Tell.WAGE, 0, 0, 100);
        y.send(1);
        y.contact(0, 0);
        Check.same("of the year 0, and a contact behind it", y.pass(1), 1);
        Check.same("none was sent for the first", y.about(0, 0), 0);
        Check.same("the second", y.about(1, 0), 1);
    }

    private static void paidLessTheLetters() {
        says("it is reported: it is PAID to its state, namely its amount less what all letters for it have cost, at least 0,");
        int[][] amountLettersPaid = {{1, 0, 1}, {1, 1, 0}, {2, 1, 0}, {3, 1, 1}, {5, 3, 0}, {6, 3, 0}, {7, 3, 1}, {10000, 1, 9998}};
        for (int[] each : amountLettersPaid) {
            Escheatry x = Tell.place();
            Tell.item(x, Tell.WAGE, 0, 1, each[0]);
            for (int sent = 0; sent < each[1]; sent++) {
                x.send(0);
            }
            Check.same("reported", x.pass(1), 1);
            Check.same("PAID", x.about(0, 0), Escheatry.PAID);
            Check.same(each[0] + " less " + each[1] + " letters", x.about(0, 5), each[2]);
            Check.same("its amount is as it was", x.about(0, 1), each[0]);
            Check.same("to its state", x.about(0, 3), 3);
            for (int s = 0; s < 5; s++) {
                Check.same("purse " + s, x.purse(s), s == 3 ? each[2] : 0);
                Check.same("purse anew " + s, x.purseAnew(s), s == 3 ? each[2] : 0);
            }
        }
        Escheatry x = Tell.place();
        Tell.item(x, Tell.CARD, 0, 0, 100);
        Tell.item(x, Tell.CARD, 1, Tell.NONE, 30);
        x.send(0);
        x.pass(1);
        x.move(0, 4);
        x.send(0);
        x.pass(1);
        Check.same("all letters, of each year", x.about(0, 5), 96);
        Check.same("to the state of the last touch", x.purse(2), 96);
        Check.same("nobody's to the home", x.purse(1), 30);
    }

    private static void neverTouchedAgain() {
        says("and never touched again;");
        Escheatry x = Check.after(SOME_PAID);
        x.pass(5);
        x.move(0, 4);
        x.contact(0, 0);
        x.merge(0, 1);
        x.contact(0, 1);
        for (int item = 0; item < 3; item++) {
            Check.same("touched " + item, x.about(item, 2), 0);
            Check.same("due " + item, x.due(item), 1);
            Check.same("state " + item, x.about(item, 3), item == 2 ? 0 : 2);
        }
        Check.same("what is HELD is touched", x.about(3, 2), 6);
    }

    private static void finedOtherwise() {
        says("otherwise its holder is fined 5 of 100 of its amount, rounded down.");
        int[][] amountFine = {{50, 2}, {59, 2}, {60, 3}, {79, 3}, {80, 4}, {99, 4}, {100, 5}, {119, 5}, {9999, 499}, {10000, 500}};
        for (int[] each : amountFine) {
            Escheatry x = Tell.place();
            Tell.item(x, Tell.WAGE, 1, 0, each[0]);
            Check.same("not reported", x.pass(1), 0);
            Check.same("for " + each[0], x.fined(1), each[1]);
            Check.same("HELD still", x.about(0, 0), Escheatry.HELD);
            x.pass(2);
            Check.same("each year for " + each[0], x.fined(1), 3 * each[1]);
            Check.same("the other holder", x.fined(0), 0);
            Check.same("no purse gets it", x.purse(0) + x.purse(1) + x.purse(2), 0);
        }
        Escheatry x = Tell.place();
        Tell.item(x, Tell.WAGE, 0, 0, 59);
        Tell.item(x, Tell.WAGE, 0, 1, 79);
        Tell.item(x, Tell.WAGE, 0, 1, 30);
        x.pass(1);
        Check.same("each rounded down, none for what is reported", x.fined(0), 5);
        Escheatry most = Tell.place();
        Tell.items(most, 24, Tell.SHARE, 0, 0, 7812);
        for (int split = 0; split < 7; split++) {
            most.split(0);
        }
        Tell.until(most, 400);
        Check.same("the most that can be", most.fined(0), 24 * 49996 * 397);
    }

    private static void sharesWorthTwice() {
        says("When a holder splits shares, each share there that is HELD is worth twice as much;");
        Escheatry x = Tell.place();
        int[] amounts = {1, 10000, 7, 49, 300, 49};
        Tell.item(x, Tell.SHARE, 0, 0, 1);
        Tell.item(x, Tell.SHARE, 0, Tell.NONE, 10000);
        Tell.item(x, Tell.SHARE, 1, 0, 7);
        Tell.item(x, Tell.SHARE, 0, 1, 49);
        Tell.item(x, Tell.BOX, 0, 0, 300);
        Tell.item(x, Tell.SHARE, 0, 1, 49);
        x.law(3, Tell.SHARE, 1);
        x.pass(1);
        x.claim(1, 5, false);
        Check.same("two that are HELD", x.split(0), 2);
        for (int item = 0; item < 6; item++) {
            Check.same("amount of " + item, x.about(item, 1), item < 2 ? 2 * amounts[item] : amounts[item]);
            Check.same("touched " + item, x.about(item, 2), 0);
        }
        Check.same("again", x.split(0), 2);
        Check.same("four times", x.about(0, 1), 4);
        Check.same("PAID as it was", x.about(3, 5), 49);
        Check.same("of a dead one's", Check.after(Tell.PLACE.then(y -> {
            Tell.item(y, Tell.SHARE, 0, 0, 1);
            y.death(0);
        })).split(0), 1);
    }

    private static void noneAbove1000000() {
        says("none may be above 1000000 by that.");
        Check.Story nearest = Tell.PLACE.then(x -> {
            Tell.item(x, Tell.SHARE, 0, 0, 1);
            Tell.item(x, Tell.SHARE, 0, 0, 7812);
            Tell.item(x, Tell.SHARE, 0, 0, 2);
            for (int split = 0; split < 7; split++) {
                x.split(0);
            }
        });
        Check.same("the nearest below", Check.after(nearest).about(1, 1), 999936);
        Check.refused("far above", Check.STATE, nearest, x -> x.split(0));
        Check.Story half = Tell.PLACE.then(x -> {
            Tell.item(x, Tell.SHARE, 0, 0, 1);
            Tell.item(x, Tell.SHARE, 0, Tell.NONE, 7813);
            for (int split = 0; split < 6; split++) {
                x.split(0);
            }
        });
        Check.same("half of the nearest above", Check.after(half).about(1, 1), 500032);
        Check.refused("the nearest above", Check.STATE, half, x -> x.split(0));
        for (int large : new int[] {0, 11, 23}) {
            Check.Story full = Tell.PLACE.then(x -> {
                for (int item = 0; item < 24; item++) {
                    Tell.item(x, Tell.SHARE, 0, 0, item == large ? 7813 : 1);
                }
                for (int split = 0; split < 6; split++) {
                    x.split(0);
                }
            });
            Check.refused("item " + large + " alone", Check.STATE, full, x -> x.split(0));
        }
        Check.same("another holder's are none of it", Check.after(half).split(1), 0);
        Escheatry other = Check.after(half);
        Tell.item(other, Tell.BOX, 1, 0, 10000);
        Tell.item(other, Tell.SHARE, 1, 0, 10000);
        for (int split = 0; split < 6; split++) {
            Check.same("the other holder's own", other.split(1), 1);
        }
        Check.same("640000", other.about(3, 1), 640000);
        Check.same("nor is another kind", other.about(2, 1), 10000);
        other.pass(3);
        other.send(1);
        other.pass(1);
        Check.same("nor what is PAID", other.split(0), 1);
        Check.same("worth more", other.about(0, 1), 128);
    }

    private static void mergedHasNoItems() {
        says("A holder that merges into another one has no items any more; those are the other one's.");
        Escheatry x = Check.after(SOME_PAID);
        Tell.item(x, Tell.CARD, 1, 0, 1000);
        Check.same("come", x.merge(0, 1), 7);
        for (int item = 0; item < 9; item++) {
            Check.same("holder of " + item, x.about(item, 4), 1);
        }
        Check.same("no contact there", x.contact(0, 0), 0);
        Check.same("no share there", x.split(0), 0);
        Check.same("contact at the other one", x.contact(0, 1), 4);
        Check.same("share at the other one", x.split(1), 1);
        x.pass(2);
        Check.same("nothing to audit there", x.audit(0, 1), 0);
        Check.same("to audit at the other one", x.audit(1, 1), 1);
        Check.same("not fined", x.fined(0), 0);
        Check.same("the other one is", x.fined(1), 50);
        x.holder(4);
        Check.same("on to a third", x.merge(1, 2), 9);
        Check.same("of the first", x.about(0, 4), 2);
    }
}
