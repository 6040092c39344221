/** Short ways to tell an object things, and where many tests begin. */
final class Tell {
    static final String[] WORDS = {"account", "cheque", "share", "box", "wage", "card"};
    static final int ACCOUNT = 0, CHEQUE = 1, SHARE = 2, BOX = 3, WAGE = 4, CARD = 5;
    static final int[] FIRST_SLEEPS = {5, 3, 4, 6, 1, 2};
    static final int NONE = Escheatry.NONE;

    static final Check.Story NOTHING = x -> { };
    /** Holders 0 and 1 with homes in the states 0 and 1, owners 0 and 1 with addresses in the states 2 and 3. */
    static final Check.Story PLACE = x -> {
        x.holder(0);
        x.holder(1);
        x.owner(2);
        x.owner(3);
    };

    private Tell() {
    }

    static Escheatry place() {
        return Check.after(PLACE);
    }

    static void type(Escheatry x, String word) {
        for (int i = 0; i < word.length(); i++) {
            x.letter(word.charAt(i));
        }
    }

    static int item(Escheatry x, int kind, int holder, int owner, int amount) {
        type(x, WORDS[kind]);
        return x.item(holder, owner, amount);
    }

    static void items(Escheatry x, int count, int kind, int holder, int owner, int amount) {
        for (int i = 0; i < count; i++) {
            item(x, kind, holder, owner, amount);
        }
    }

    /** Lets as many years go by as it takes. */
    static void until(Escheatry x, int year) {
        for (int left = year - x.year(); left > 0; left -= 20) {
            x.pass(Math.min(left, 20));
        }
    }
}
