/** Promises 1 to 9: a new object, letter, holder, owner, item, law, move, death, heir. */
public final class TellingTest {
    private static final int MIN = Integer.MIN_VALUE, MAX = Integer.MAX_VALUE;

    public static void main(String[] args) {
        newObject();
        letter();
        holder();
        owner();
        item();
        itemOfNoKind();
        itemRefused();
        laws();
        lawRefused();
        move();
        moveRefused();
        death();
        heir();
        Check.end("TellingTest");
    }

    private static void newObject() {
        Escheatry x = new Escheatry();
        Check.same("1 year", x.year(), 0);
        Check.same("1 finders", x.finders(), 0);
        for (int s = 0; s < 5; s++) {
            Check.same("1 purse", x.purse(s), 0);
            Check.same("1 purseAnew", x.purseAnew(s), 0);
        }
        Check.refused("1 fined(0)", Check.INDEX, x, () -> x.fined(0));
        Check.refused("1 due(0)", Check.INDEX, x, () -> x.due(0));
        Check.refused("1 death(0)", Check.INDEX, x, () -> x.death(0));
        Check.same("1 first holder", x.holder(0), 0);
        Check.same("1 first owner", x.owner(0), 0);
        Check.same("1 no word", x.item(0, 0, 1), -1);
        int[] sleeps = {5, 3, 4, 6, 1, 2};
        for (int s = 0; s < 5; s++) {
            for (int k = 0; k < 6; k++) {
                Check.same("1 first law", x.law(s, k, sleeps[k]), sleeps[k]);
            }
        }
        Check.same("1 first item", Check.tell(x, Check.BOX, 0, 0, 1), 0);
        Escheatry y = new Escheatry();
        Check.same("1 another object's first holder", y.holder(1), 0);
    }

    private static void letter() {
        Escheatry x = new Escheatry();
        Check.same("2 a", x.letter('a'), 1);
        Check.same("2 z", x.letter('z'), 2);
        for (char none : new char[] {'`', '{', 'A', 'Z', ' ', (char) 0, (char) 233, (char) 65535, '@', '['}) {
            Check.refused("2 letter " + (int) none, Check.ARGUMENT, x, () -> x.letter(none));
        }
        for (int count = 3; count <= 7; count++) {
            Check.same("2 count", x.letter('m'), count);
        }
        Check.refused("2 the eighth", Check.STATE, x, () -> x.letter('b'));
        Check.refused("2 the eighth, none of these", Check.ARGUMENT, x, () -> x.letter('1'));
        x.holder(0);
        Check.same("2 no kind", x.item(0, -1, 1), -1);
        Check.same("2 anew", x.letter('b'), 1);
        Check.refused("2 no letter between", Check.ARGUMENT, x, () -> x.letter('-'));
        x.letter('o');
        x.letter('x');
        Check.same("2 refused letters are not typed", x.item(0, -1, 1), 0);
        Check.same("2 box", x.due(0), 6);
    }

    private static void holder() {
        Escheatry x = new Escheatry();
        for (int none : new int[] {-1, 5, MIN, MAX}) {
            Check.refused("3 holder", Check.INDEX, x, () -> x.holder(none));
        }
        for (int number = 0; number < 6; number++) {
            Check.same("3 holder", x.holder(number % 5), number);
        }
        Check.refused("3 the seventh", Check.STATE, x, () -> x.holder(0));
        Check.refused("3 the seventh nowhere", Check.INDEX, x, () -> x.holder(5));
        for (int number = 0; number < 6; number++) {
            int item = Check.tell(x, Check.CARD, number, -1, 9);
            Check.same("3 home", x.about(item, 3), number % 5);
            Check.same("3 not fined", x.fined(number), 0);
        }
        Check.same("3 merge", x.merge(0, 1), 1);
        Check.refused("3 also one that merged counts", Check.STATE, x, () -> x.holder(0));
    }

    private static void owner() {
        Escheatry x = new Escheatry();
        for (int none : new int[] {-1, 5, MIN, MAX}) {
            Check.refused("4 owner", Check.INDEX, x, () -> x.owner(none));
        }
        for (int number = 0; number < 8; number++) {
            Check.same("4 owner", x.owner(number % 5), number);
        }
        Check.refused("4 the ninth", Check.STATE, x, () -> x.owner(0));
        Check.refused("4 the ninth nowhere", Check.INDEX, x, () -> x.owner(-1));
        x.death(3);
        Check.refused("4 also a dead one counts", Check.STATE, x, () -> x.owner(0));
        for (int number = 0; number < 8; number++) {
            if (number != 3) {
                Check.same("4 address", x.move(number, 4), number % 5);
            }
        }
    }

    private static void item() {
        Escheatry x = new Escheatry();
        x.holder(3);
        x.holder(4);
        x.owner(1);
        x.owner(2);
        x.pass(7);
        int[] sleeps = {5, 3, 4, 6, 1, 2};
        for (int k = 0; k < 6; k++) {
            Check.same("5 number", Check.tell(x, k, 1, 1, 100 + k), k);
            Check.same("5 due", x.due(k), 7 + sleeps[k]);
            int[] about = {0, 100 + k, 7, 2, 1, 0, 0};
            for (int what = 0; what <= 6; what++) {
                Check.same("5 about " + what, x.about(k, what), about[what]);
            }
        }
        Check.same("5 least", Check.tell(x, Check.CARD, 0, -1, 1), 6);
        Check.same("5 most", Check.tell(x, Check.CARD, 0, -1, 10000), 7);
        Check.same("5 its amount", x.about(7, 1), 10000);
        Check.same("5 nobody's", x.about(7, 3), 3);
        x.death(0);
        Check.same("5 of a dead one", Check.tell(x, Check.CARD, 0, 0, 1), 8);
        Check.same("5 state of that", x.about(8, 3), 1);
    }

    private static void itemOfNoKind() {
        Escheatry x = new Escheatry();
        x.holder(0);
        String[] none = {"", "accoun", "account".substring(1), "cheques", "shar", "boxx", "wages", "cart", "drac", "abcdefg"};
        for (String word : none) {
            Check.type(x, word);
            Check.same("5 " + word, x.item(0, -1, 5), -1);
        }
        Check.same("5 none told", Check.items(x), 0);
        Check.same("5 nothing typed then", x.letter('b'), 1);
        Check.type(x, "ox");
        Check.same("5 box", x.item(0, -1, 5), 0);
        Check.same("5 nothing typed then", x.item(0, -1, 5), -1);
    }

    private static void itemRefused() {
        Escheatry x = new Escheatry();
        Check.type(x, "box");
        Check.refused("5 no holder", Check.INDEX, x, () -> x.item(0, -1, 1));
        x.holder(0);
        x.holder(1);
        x.owner(0);
        for (int none : new int[] {-1, 2, MIN, MAX}) {
            Check.refused("5 holder " + none, Check.INDEX, x, () -> x.item(none, 0, 1));
            Check.refused("5 holder ahead of amount", Check.INDEX, x, () -> x.item(none, 0, 0));
        }
        for (int none : new int[] {-2, 1, MIN, MAX}) {
            Check.refused("5 owner " + none, Check.INDEX, x, () -> x.item(0, none, 1));
            Check.refused("5 owner ahead of amount", Check.INDEX, x, () -> x.item(0, none, 10001));
        }
        x.merge(1, 0);
        for (int none : new int[] {0, -1, 10001, MIN, MAX}) {
            Check.refused("5 amount " + none, Check.ARGUMENT, x, () -> x.item(0, 0, none));
            Check.refused("5 amount ahead of merged", Check.ARGUMENT, x, () -> x.item(1, 0, none));
        }
        Check.refused("5 merged", Check.STATE, x, () -> x.item(1, 0, 1));
        Check.same("5 the word is typed still", x.item(0, 0, 1), 0);
        for (int number = 1; number < 24; number++) {
            Check.same("5 number", Check.tell(x, number % 6, 0, -1, number), number);
        }
        Check.refused("5 the 25th, no word", Check.STATE, x, () -> x.item(0, 0, 1));
        Check.type(x, "card");
        Check.refused("5 the 25th", Check.STATE, x, () -> x.item(0, 0, 1));
        Check.same("5 the word is typed still", x.letter('s'), 5);
        Check.refused("5 the 25th, amount", Check.ARGUMENT, x, () -> x.item(0, 0, 0));
        Check.refused("5 the 25th, holder", Check.INDEX, x, () -> x.item(2, 0, 0));
        Check.same("5 items", Check.items(x), 24);
    }

    private static void laws() {
        Escheatry x = new Escheatry();
        x.holder(0);
        x.owner(2);
        int early = Check.tell(x, Check.BOX, 0, 0, 100);
        Check.same("6 first", x.law(2, Check.BOX, 20), 6);
        Check.same("6 counts from its year on", x.due(early), 20);
        Check.same("6 of one year the last one", x.law(2, Check.BOX, 0), 20);
        Check.same("6 due at once", x.due(early), 0);
        Check.same("6 again", x.law(2, Check.BOX, 9), 0);
        x.pass(3);
        int late = Check.tell(x, Check.BOX, 0, 0, 100);
        Check.same("6 still the one of year 0", x.due(late), 12);
        Check.same("6 another one", x.law(2, Check.BOX, 4), 9);
        Check.same("6 not for what was touched ahead", x.due(early), 9);
        Check.same("6 for what was touched in its year", x.due(late), 7);
        x.pass(1);
        Check.same("6 a later one", x.law(2, Check.BOX, 1), 4);
        Check.same("6 not for the middle one", x.due(late), 7);
        Check.same("6 nor for the early one", x.due(early), 9);
        Check.same("6 other states", x.law(1, Check.BOX, 2), 6);
        Check.same("6 other kinds", x.law(2, Check.CARD, 3), 2);
        Check.same("6 nor for these", x.due(late), 7);
        int newest = Check.tell(x, Check.BOX, 0, 0, 100);
        Check.same("6 newest", x.due(newest), 5);
        int nobodys = Check.tell(x, Check.BOX, 0, -1, 100);
        Check.same("6 nobody's, by the home", x.due(nobodys), 10);
        x.law(0, Check.BOX, 11);
        Check.same("6 nobody's, by the law of the home", x.due(nobodys), 15);
    }

    private static void lawRefused() {
        Escheatry x = new Escheatry();
        for (int none : new int[] {-1, 5, MIN, MAX}) {
            Check.refused("6 state", Check.INDEX, x, () -> x.law(none, 0, 1));
            Check.refused("6 state ahead of years", Check.INDEX, x, () -> x.law(none, 0, 21));
        }
        for (int none : new int[] {-1, 6, MIN, MAX}) {
            Check.refused("6 kind", Check.INDEX, x, () -> x.law(0, none, 1));
            Check.refused("6 kind ahead of years", Check.INDEX, x, () -> x.law(0, none, -1));
        }
        for (int none : new int[] {-1, 21, MIN, MAX}) {
            Check.refused("6 years", Check.ARGUMENT, x, () -> x.law(4, 5, none));
        }
        Check.same("6 refused laws are none", x.law(4, 5, 0), 2);
        Check.same("6 least", x.law(4, 5, 20), 0);
        Check.same("6 most", x.law(4, 5, 1), 20);
    }

    private static void move() {
        Escheatry x = new Escheatry();
        x.holder(0);
        x.owner(1);
        x.owner(4);
        int early = Check.tell(x, Check.BOX, 0, 0, 100);
        Check.same("7 before", x.move(0, 2), 1);
        Check.same("7 of several in a year the last one", x.about(early, 3), 2);
        Check.same("7 before", x.move(0, 3), 2);
        Check.same("7 the last one", x.about(early, 3), 3);
        x.pass(2);
        Check.same("7 before", x.move(0, 0), 3);
        Check.same("7 not for what was touched ahead", x.about(early, 3), 3);
        int late = Check.tell(x, Check.BOX, 0, 0, 100);
        Check.same("7 where it is now", x.about(late, 3), 0);
        x.pass(1);
        Check.same("7 to the same", x.move(0, 0), 0);
        Check.same("7 away", x.move(0, 4), 0);
        Check.same("7 the late one stays", x.about(late, 3), 0);
        Check.same("7 touch", x.contact(0, 0), 2);
        Check.same("7 touched there", x.about(early, 3), 4);
        Check.same("7 touched there", x.about(late, 3), 4);
        Check.same("7 the other one", x.move(1, 0), 4);
    }

    private static void moveRefused() {
        Escheatry x = new Escheatry();
        Check.refused("7 none", Check.INDEX, x, () -> x.move(0, 0));
        x.owner(1);
        for (int none : new int[] {-1, 1, MIN, MAX}) {
            Check.refused("7 owner", Check.INDEX, x, () -> x.move(none, 0));
        }
        for (int none : new int[] {-1, 5, MIN, MAX}) {
            Check.refused("7 state", Check.INDEX, x, () -> x.move(0, none));
        }
        Check.same("7 refused moves are none", x.move(0, 2), 1);
        x.death(0);
        Check.refused("7 dead", Check.STATE, x, () -> x.move(0, 0));
        Check.refused("7 dead, state", Check.INDEX, x, () -> x.move(0, 5));
        x.holder(0);
        Check.tell(x, Check.CARD, 0, 0, 1);
        Check.same("7 a dead one stays", x.about(0, 3), 2);
    }

    private static void death() {
        Escheatry x = new Escheatry();
        Check.refused("8 none", Check.INDEX, x, () -> x.death(0));
        x.owner(1);
        x.owner(2);
        for (int none : new int[] {-1, 2, MIN, MAX}) {
            Check.refused("8 owner", Check.INDEX, x, () -> x.death(none));
        }
        x.death(1);
        Check.same("8 the other one lives", x.move(0, 3), 1);
        Check.refused("8 dead", Check.STATE, x, () -> x.death(1));
        Check.refused("8 dead ones don't move", Check.STATE, x, () -> x.move(1, 3));
        x.death(0);
        Check.refused("8 dead too", Check.STATE, x, () -> x.death(0));
    }

    private static void heir() {
        Escheatry x = new Escheatry();
        for (int number = 0; number < 8; number++) {
            x.owner(0);
        }
        for (int number = 1; number < 8; number++) {
            Check.same("9 new", x.heir(0, number), true);
            Check.same("9 not new", x.heir(0, number), false);
        }
        Check.same("9 the other way", x.heir(7, 0), true);
        x.death(0);
        x.death(1);
        Check.same("9 of a dead one", x.heir(1, 2), true);
        Check.same("9 a dead one", x.heir(2, 1), true);
        for (int none : new int[] {-1, 8, 32, MIN, MAX}) {
            Check.refused("9 owner", Check.INDEX, x, () -> x.heir(none, 0));
            Check.refused("9 heir", Check.INDEX, x, () -> x.heir(0, none));
            Check.refused("9 both", Check.INDEX, x, () -> x.heir(none, none));
        }
        Check.refused("9 the same", Check.ARGUMENT, x, () -> x.heir(3, 3));
    }
}
