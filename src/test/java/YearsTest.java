/** Promises 10 to 14: contact, send, split, merge, pass. */
public final class YearsTest {
    private static final int MIN = Integer.MIN_VALUE, MAX = Integer.MAX_VALUE;

    public static void main(String[] args) {
        contact();
        contactRefused();
        send();
        split();
        splitRefused();
        merge();
        mergeRefused();
        reportWithoutLetter();
        reportWithLetter();
        fines();
        sleepOfNoYears();
        passRefused();
        Check.end("YearsTest");
    }

    private static Escheatry twoHoldersTwoOwners() {
        Escheatry x = new Escheatry();
        x.holder(0);
        x.holder(1);
        x.owner(2);
        x.owner(3);
        return x;
    }

    private static void contact() {
        Escheatry x = twoHoldersTwoOwners();
        Check.tell(x, Check.BOX, 0, 0, 100);
        Check.tell(x, Check.BOX, 0, 1, 100);
        Check.tell(x, Check.BOX, 1, 0, 100);
        Check.tell(x, Check.BOX, 0, -1, 100);
        Check.tell(x, Check.WAGE, 0, 0, 49);
        Check.tell(x, Check.ACCOUNT, 0, 0, 100);
        Check.same("10 also in the same year", x.contact(0, 0), 3);
        x.pass(2);
        Check.same("10 what is paid is not touched", x.contact(0, 0), 2);
        int[] touched = {2, 0, 0, 0, 0, 2};
        for (int i = 0; i < 6; i++) {
            Check.same("10 touched " + i, x.about(i, 2), touched[i]);
        }
        Check.same("10 due", x.due(0), 8);
        Check.same("10 again", x.contact(0, 0), 2);
        x.merge(0, 1);
        Check.same("10 at one that merged", x.contact(0, 0), 0);
        Check.same("10 at the other one", x.contact(0, 1), 3);
        Check.same("10 none", x.contact(1, 0), 0);
        x.send(0);
        x.pass(1);
        x.contact(0, 1);
        Check.same("10 a letter is no touch", x.about(0, 2), 3);
        Check.same("10 letters stay", x.about(0, 6), 1);
    }

    private static void contactRefused() {
        Escheatry x = twoHoldersTwoOwners();
        Check.tell(x, Check.BOX, 0, 0, 100);
        x.pass(1);
        for (int none : new int[] {-1, 2, MIN, MAX}) {
            Check.refused("10 owner", Check.INDEX, x, () -> x.contact(none, 0));
            Check.refused("10 holder", Check.INDEX, x, () -> x.contact(0, none));
        }
        x.death(0);
        Check.refused("10 dead", Check.STATE, x, () -> x.contact(0, 0));
        Check.refused("10 dead, holder", Check.INDEX, x, () -> x.contact(0, 2));
        Check.same("10 not touched", x.about(0, 2), 0);
    }

    private static void send() {
        Escheatry x = twoHoldersTwoOwners();
        Check.refused("11 none", Check.INDEX, x, () -> x.send(0));
        Check.tell(x, Check.WAGE, 0, 0, 100);
        Check.tell(x, Check.WAGE, 0, -1, 49);
        Check.same("11 first", x.send(0), 1);
        Check.same("11 second", x.send(0), 2);
        Check.same("11 another item", x.send(1), 1);
        Check.same("11 about", x.about(0, 6), 2);
        Check.same("11 not touched", x.about(0, 2), 0);
        for (int none : new int[] {-1, 2, MIN, MAX}) {
            Check.refused("11 item", Check.INDEX, x, () -> x.send(none));
        }
        Check.same("11 reported", x.pass(1), 2);
        Check.refused("11 paid", Check.STATE, x, () -> x.send(0));
        x.claim(0, 0, false);
        Check.refused("11 claimed", Check.STATE, x, () -> x.send(0));
        Check.same("11 as many as ahead", x.about(0, 6), 2);
    }

    private static void split() {
        Escheatry x = twoHoldersTwoOwners();
        Check.tell(x, Check.SHARE, 0, 0, 100);
        Check.tell(x, Check.SHARE, 1, 0, 100);
        Check.tell(x, Check.BOX, 0, 0, 100);
        Check.tell(x, Check.SHARE, 0, -1, 7);
        Check.tell(x, Check.SHARE, 0, 1, 10000);
        Check.same("12 worth more", x.split(0), 3);
        int[] amounts = {200, 100, 100, 14, 20000};
        for (int i = 0; i < 5; i++) {
            Check.same("12 amount " + i, x.about(i, 1), amounts[i]);
            Check.same("12 not touched", x.about(i, 2), 0);
        }
        x.pass(4);
        Check.same("12 what is paid is worth no more", x.split(0), 2);
        Check.same("12 paid", x.about(3, 1), 14);
        Check.same("12 worth more", x.about(0, 1), 400);
        x.merge(0, 1);
        Check.same("12 at one that merged", x.split(0), 0);
        Check.same("12 at the other one", x.split(1), 3);
        Check.same("12 also what came", x.about(4, 1), 80000);
    }

    private static void splitRefused() {
        Escheatry x = twoHoldersTwoOwners();
        for (int none : new int[] {-1, 2, MIN, MAX}) {
            Check.refused("12 holder", Check.INDEX, x, () -> x.split(none));
        }
        Check.tell(x, Check.SHARE, 0, 0, 1);
        Check.tell(x, Check.SHARE, 0, 0, 7812);
        Check.tell(x, Check.BOX, 0, 0, 10000);
        for (int i = 0; i < 7; i++) {
            Check.same("12 worth more", x.split(0), 2);
        }
        Check.same("12 just below", x.about(1, 1), 999936);
        Check.refused("12 above", Check.STATE, x, () -> x.split(0));
        Check.same("12 nothing is worth more", x.about(0, 1), 128);
        Escheatry y = twoHoldersTwoOwners();
        Check.tell(y, Check.SHARE, 0, 0, 7813);
        for (int i = 0; i < 6; i++) {
            Check.same("12 worth more", y.split(0), 1);
        }
        Check.same("12 half of too much", y.about(0, 1), 500032);
        Check.refused("12 just above", Check.STATE, y, () -> y.split(0));
        y.merge(0, 1);
        Check.same("12 at one that merged", y.split(0), 0);
        Check.refused("12 above at the other one", Check.STATE, y, () -> y.split(1));
        y.pass(3);
        y.send(0);
        y.pass(1);
        Check.same("12 what is paid may be above", y.split(1), 0);
    }

    private static void merge() {
        Escheatry x = twoHoldersTwoOwners();
        x.holder(4);
        Check.tell(x, Check.WAGE, 0, 0, 10);
        Check.tell(x, Check.WAGE, 0, 0, 20);
        Check.tell(x, Check.CHEQUE, 0, -1, 300);
        Check.tell(x, Check.WAGE, 1, 1, 30);
        Check.tell(x, Check.WAGE, 0, -1, 40);
        x.pass(3);
        Check.same("13 fined ahead", x.fined(0), 15);
        x.claim(0, 0, false);
        Check.same("13 whatever they are", x.merge(0, 1), 4);
        int[] holders = {1, 1, 1, 1, 1};
        int[] states = {2, 2, 1, 3, 0};
        for (int i = 0; i < 5; i++) {
            Check.same("13 holder of " + i, x.about(i, 4), holders[i]);
            Check.same("13 state of " + i, x.about(i, 3), states[i]);
        }
        Check.same("13 fines stay", x.fined(0), 15);
        Check.same("13 none come along", x.fined(1), 0);
        x.pass(1);
        Check.same("13 the other one is fined now", x.fined(1), 15);
        Check.same("13 not that which merged", x.fined(0), 15);
        Check.same("13 on", x.merge(1, 2), 5);
        Check.same("13 at the third", x.about(0, 4), 2);
        Check.same("13 nobody's, by the home of that", x.about(2, 3), 4);
        x.law(4, Check.CHEQUE, 7);
        Check.same("13 not by a later law", x.due(2), 3);
    }

    private static void mergeRefused() {
        Escheatry x = twoHoldersTwoOwners();
        x.holder(2);
        Check.tell(x, Check.BOX, 0, 0, 100);
        for (int none : new int[] {-1, 3, MIN, MAX}) {
            Check.refused("13 holder", Check.INDEX, x, () -> x.merge(none, 0));
            Check.refused("13 into", Check.INDEX, x, () -> x.merge(0, none));
            Check.refused("13 both", Check.INDEX, x, () -> x.merge(none, none));
        }
        Check.refused("13 the same", Check.ARGUMENT, x, () -> x.merge(0, 0));
        Check.same("13 none come", x.merge(1, 0), 0);
        Check.refused("13 has merged", Check.STATE, x, () -> x.merge(1, 0));
        Check.refused("13 has merged, another one", Check.STATE, x, () -> x.merge(1, 2));
        Check.refused("13 into one that has merged", Check.STATE, x, () -> x.merge(0, 1));
        Check.refused("13 the same that has merged", Check.ARGUMENT, x, () -> x.merge(1, 1));
        Check.same("13 come", x.merge(0, 2), 1);
    }

    private static void reportWithoutLetter() {
        Escheatry x = twoHoldersTwoOwners();
        Check.tell(x, Check.WAGE, 0, 0, 49);
        Check.tell(x, Check.WAGE, 0, 0, 50);
        Check.tell(x, Check.CARD, 0, 0, 49);
        Check.tell(x, Check.CARD, 1, -1, 3);
        x.send(3);
        x.send(3);
        Check.same("14 the first", x.pass(1), 1);
        Check.same("14 year", x.year(), 1);
        int[] how = {1, 0, 0, 0};
        for (int i = 0; i < 4; i++) {
            Check.same("14 how " + i, x.about(i, 0), how[i]);
        }
        Check.same("14 fined", x.fined(0), 2);
        Check.same("14 the others", x.pass(1), 2);
        Check.same("14 at least 0", x.about(3, 5), 0);
        Check.same("14 paid is paid", x.about(3, 0), 1);
        Check.same("14 amount", x.about(3, 1), 3);
        Check.same("14 purse", x.purse(2), 98);
        Check.same("14 not again", x.pass(20), 0);
        Check.same("14 purse", x.purse(2), 98);
        Check.same("14 fined each year", x.fined(0), 44);
    }

    private static void reportWithLetter() {
        Escheatry x = twoHoldersTwoOwners();
        Check.tell(x, Check.CHEQUE, 0, 0, 1000);
        Check.tell(x, Check.CHEQUE, 0, 1, 1000);
        x.send(0);
        x.pass(1);
        x.send(0);
        x.send(1);
        x.send(1);
        x.pass(1);
        x.send(0);
        Check.same("14 due with a letter", x.pass(1), 1);
        Check.same("14 all letters cost", x.about(0, 5), 994);
        Check.same("14 a letter of too long ago", x.about(1, 0), 0);
        Check.same("14 fined for that", x.fined(0), 50);
        x.send(1);
        Check.same("14 many years", x.pass(5), 1);
        Check.same("14 all letters cost", x.about(1, 5), 994);
        Check.same("14 fined no more", x.fined(0), 50);
        Check.same("14 purse of the one", x.purse(2), 994);
        Check.same("14 purse of the other", x.purse(3), 994);
        Check.tell(x, Check.WAGE, 0, 0, 1000);
        x.send(2);
        x.contact(0, 0);
        Check.same("14 a letter counts also with a contact", x.pass(1), 1);
        Check.tell(x, Check.CARD, 0, 0, 1000);
        x.send(3);
        Check.same("14 only the first year has the letter", x.pass(3), 0);
        Check.same("14 fined twice", x.fined(0), 150);
    }

    private static void fines() {
        Escheatry x = twoHoldersTwoOwners();
        Check.tell(x, Check.WAGE, 0, 0, 59);
        Check.tell(x, Check.WAGE, 0, 0, 60);
        Check.tell(x, Check.WAGE, 1, -1, 9999);
        x.pass(1);
        Check.same("14 each rounded down", x.fined(0), 5);
        Check.same("14 each holder for its own", x.fined(1), 499);
        x.pass(2);
        Check.same("14 each year", x.fined(0), 15);
        x.contact(0, 0);
        x.pass(1);
        Check.same("14 late again", x.fined(0), 20);
        Check.same("14 no purse gets fines", x.purse(0) + x.purse(1) + x.purse(2), 0);
    }

    private static void sleepOfNoYears() {
        Escheatry x = twoHoldersTwoOwners();
        x.law(2, Check.BOX, 0);
        Check.tell(x, Check.BOX, 0, 0, 10);
        Check.same("14 not ahead of the next year", x.about(0, 0), 0);
        Check.same("14 due in this year", x.due(0), 0);
        Check.same("14 reported when a year begins", x.pass(1), 1);
    }

    private static void passRefused() {
        Escheatry x = twoHoldersTwoOwners();
        Check.tell(x, Check.WAGE, 0, 0, 10000);
        for (int none : new int[] {0, -1, 21, MIN, MAX}) {
            Check.refused("14 years", Check.ARGUMENT, x, () -> x.pass(none));
        }
        for (int i = 0; i < 19; i++) {
            Check.same("14 none", x.pass(20), 0);
        }
        Check.same("14 least", x.pass(1), 0);
        Check.refused("14 above", Check.STATE, x, () -> x.pass(20));
        Check.same("14 just 400", x.pass(19), 0);
        Check.same("14 year", x.year(), 400);
        Check.refused("14 above", Check.STATE, x, () -> x.pass(1));
        Check.refused("14 above, years", Check.ARGUMENT, x, () -> x.pass(21));
        Check.same("14 all the fines", x.fined(0), 200000);
        x.send(0);
        Check.same("14 still the last year", x.about(0, 0), 0);
    }
}
