import java.util.ArrayList;

/** Property that nobody comes for: who holds it, whose it is, when it is due, and to which state it goes. */
public final class Escheatry {
    public static final int NONE = -1;
    public static final int HELD = 0, PAID = 1, CLAIMED = 2;

    private static final int STATES = 5;
    private static final int MOST_LETTERS = 7;
    private static final int MOST_HOLDERS = 6;
    private static final int MOST_OWNERS = 8;
    private static final int MOST_ITEMS = 24;
    private static final int MOST_TOLD_AMOUNT = 10000;
    private static final int MOST_SPLIT_AMOUNT = 1000000;
    private static final int LONGEST_SLEEP = 20;
    private static final int MOST_YEARS_AT_ONCE = 20;
    private static final int LAST_YEAR = 400;
    private static final int WIDEST_STEP = 10;
    private static final int LETTER_COST = 2;
    private static final int REPORTED_WITHOUT_LETTER_BELOW = 50;
    private static final int FINE_OF_100 = 5;
    private static final int FINDER_PART = 10;
    private static final int SHARE = 2;
    private static final Kind[] KINDS = Kind.values();

    private final StringBuilder word = new StringBuilder();
    private final ArrayList<Holder> holders = new ArrayList<>();
    private final ArrayList<Owner> owners = new ArrayList<>();
    private final ArrayList<Item> items = new ArrayList<>();
    private final ArrayList<Note> notes = new ArrayList<>();
    private final Since[] laws = new Since[STATES * KINDS.length];
    private final int[] purses = new int[STATES];
    private int now = 0;
    private int findersGot = 0;

    public Escheatry() {
        for (int state = 0; state < STATES; state++) {
            for (int kind = 0; kind < KINDS.length; kind++) {
                laws[placeOfLaw(state, kind)] = new Since(0, KINDS[kind].firstSleep, null);
            }
        }
    }

    // ---- holders, owners, items

    public int letter(char letter) throws IllegalArgumentException, IllegalStateException {
        if (letter < 'a' || letter > 'z') {
            throw new IllegalArgumentException("no letter of a to z");
        }
        if (word.length() >= MOST_LETTERS) {
            throw new IllegalStateException("the word is full");
        }
        word.append(letter);
        return word.length();
    }

    public int holder(int home) throws IndexOutOfBoundsException, IllegalStateException {
        if (!isState(home)) {
            throw new IndexOutOfBoundsException("no such state");
        }
        if (holders.size() >= MOST_HOLDERS) {
            throw new IllegalStateException("no more holders");
        }
        int number = holders.size();
        holders.add(new Holder(number, home));
        return number;
    }

    public int owner(int state) throws IndexOutOfBoundsException, IllegalStateException {
        if (!isState(state)) {
            throw new IndexOutOfBoundsException("no such state");
        }
        if (owners.size() >= MOST_OWNERS) {
            throw new IllegalStateException("no more owners");
        }
        int number = owners.size();
        owners.add(new Owner(new Since(now, state, null)));
        return number;
    }

    public int item(int holder, int owner, int amount)
            throws IndexOutOfBoundsException, IllegalArgumentException, IllegalStateException {
        if (!isHolder(holder) || owner != NONE && !isOwner(owner)) {
            throw new IndexOutOfBoundsException("no such holder or owner");
        }
        if (amount < 1 || amount > MOST_TOLD_AMOUNT) {
            throw new IllegalArgumentException("amount out of range");
        }
        Holder where = holders.get(holder);
        if (items.size() >= MOST_ITEMS || where.merged) {
            throw new IllegalStateException("no more items, or the holder has merged");
        }
        int kind = kindOf(word.toString());
        word.setLength(0);
        if (kind == NONE) {
            return NONE;
        }
        Owner whose = isOwner(owner) ? owners.get(owner) : null;
        int number = items.size();
        items.add(new Item(kind, where, whose, amount, now));
        return number;
    }

    public int law(int state, int kind, int years) throws IndexOutOfBoundsException, IllegalArgumentException {
        if (!isState(state) || !isKind(kind)) {
            throw new IndexOutOfBoundsException("no such state or kind");
        }
        if (years < 0 || years > LONGEST_SLEEP) {
            throw new IllegalArgumentException("years out of range");
        }
        int before = sleepBy(state, kind, now);
        int place = placeOfLaw(state, kind);
        laws[place] = Since.toldAfter(laws[place], now, years);
        return before;
    }

    public int move(int owner, int state) throws IndexOutOfBoundsException, IllegalStateException {
        if (!isOwner(owner) || !isState(state)) {
            throw new IndexOutOfBoundsException("no such owner or state");
        }
        Owner who = owners.get(owner);
        if (who.dead) {
            throw new IllegalStateException("the owner is dead");
        }
        int before = Since.valueIn(who.address, now);
        who.address = Since.toldAfter(who.address, now, state);
        return before;
    }

    public void death(int owner) throws IndexOutOfBoundsException, IllegalStateException {
        if (!isOwner(owner)) {
            throw new IndexOutOfBoundsException("no such owner");
        }
        Owner who = owners.get(owner);
        if (who.dead) {
            throw new IllegalStateException("the owner is dead");
        }
        who.dead = true;
    }

    public boolean heir(int owner, int heir) throws IndexOutOfBoundsException, IllegalArgumentException {
        if (!isOwner(owner) || !isOwner(heir)) {
            throw new IndexOutOfBoundsException("no such owner");
        }
        if (owner == heir) {
            throw new IllegalArgumentException("nobody is an heir of oneself");
        }
        return owners.get(owner).addHeir(heir);
    }

    // ---- contacts, letters, years

    public int contact(int owner, int holder) throws IndexOutOfBoundsException, IllegalStateException {
        if (!isOwner(owner) || !isHolder(holder)) {
            throw new IndexOutOfBoundsException("no such owner or holder");
        }
        Owner who = owners.get(owner);
        if (who.dead) {
            throw new IllegalStateException("the owner is dead");
        }
        Holder where = holders.get(holder);
        int touched = 0;
        for (int i = 0; i < items.size(); i++) {
            Item item = items.get(i);
            if (item.isHeldAt(where) && item.owner == who) {
                item.touched = now;
                touched++;
            }
        }
        return touched;
    }

    public int send(int item) throws IndexOutOfBoundsException, IllegalStateException {
        if (!isItem(item)) {
            throw new IndexOutOfBoundsException("no such item");
        }
        Item about = items.get(item);
        if (about.how != HELD) {
            throw new IllegalStateException("the item is not held");
        }
        about.letters++;
        about.lastLetter = now;
        return about.letters;
    }

    public int split(int holder) throws IndexOutOfBoundsException, IllegalStateException {
        if (!isHolder(holder)) {
            throw new IndexOutOfBoundsException("no such holder");
        }
        Holder where = holders.get(holder);
        if (!canSplit(where)) {
            throw new IllegalStateException("a share would be worth too much");
        }
        int worthMore = 0;
        for (int i = 0; i < items.size(); i++) {
            Item item = items.get(i);
            if (item.isHeldAt(where) && item.kind == SHARE) {
                item.amount *= 2;
                worthMore++;
            }
        }
        return worthMore;
    }

    public int merge(int holder, int into)
            throws IndexOutOfBoundsException, IllegalArgumentException, IllegalStateException {
        if (!isHolder(holder) || !isHolder(into)) {
            throw new IndexOutOfBoundsException("no such holder");
        }
        if (holder == into) {
            throw new IllegalArgumentException("no holder merges into itself");
        }
        Holder from = holders.get(holder);
        Holder to = holders.get(into);
        if (from.merged || to.merged) {
            throw new IllegalStateException("a holder has merged into another one");
        }
        from.merged = true;
        int come = 0;
        for (int i = 0; i < items.size(); i++) {
            Item item = items.get(i);
            if (item.holder == from) {
                item.holder = to;
                come++;
            }
        }
        return come;
    }

    public int pass(int years) throws IllegalArgumentException, IllegalStateException {
        if (years < 1 || years > MOST_YEARS_AT_ONCE) {
            throw new IllegalArgumentException("years out of range");
        }
        if (now + years > LAST_YEAR) {
            throw new IllegalStateException("behind the last year");
        }
        int reported = 0;
        for (int begun = 0; begun < years; begun++) {
            now++;
            reported += reportOrFine();
        }
        return reported;
    }

    // ---- claims, audits

    public int claim(int owner, int item, boolean hasFinder)
            throws IndexOutOfBoundsException, IllegalStateException {
        if (!isOwner(owner) || !isItem(item)) {
            throw new IndexOutOfBoundsException("no such owner or item");
        }
        Item claimed = items.get(item);
        if (claimed.how != PAID || !mayClaim(owner, claimed)) {
            throw new IllegalStateException("the item is not paid, or the owner may not claim it");
        }
        claimed.how = CLAIMED;
        enter(claimed.paidTo, -claimed.paid);
        int finderGets = hasFinder ? claimed.paid / FINDER_PART : 0;
        findersGot += finderGets;
        return claimed.paid - finderGets;
    }

    public int audit(int holder, int each) throws IndexOutOfBoundsException, IllegalArgumentException {
        if (!isHolder(holder)) {
            throw new IndexOutOfBoundsException("no such holder");
        }
        if (each < 1 || each > WIDEST_STEP) {
            throw new IllegalArgumentException("each out of range");
        }
        Holder where = holders.get(holder);
        int held = 0;
        int looked = 0;
        int late = 0;
        for (int i = 0; i < items.size(); i++) {
            Item item = items.get(i);
            if (item.isHeldAt(where)) {
                if (held % each == 0) {
                    looked++;
                    late += isLate(item) ? 1 : 0;
                }
                held++;
            }
        }
        return looked == 0 ? 0 : late * held / looked;
    }

    // ---- questions

    public int year() {
        return now;
    }

    public int about(int item, int what) throws IndexOutOfBoundsException, IllegalArgumentException {
        if (!isItem(item)) {
            throw new IndexOutOfBoundsException("no such item");
        }
        Item asked = items.get(item);
        switch (what) {
            case 0: return asked.how;
            case 1: return asked.amount;
            case 2: return asked.touched;
            case 3: return stateOf(asked);
            case 4: return asked.holder.number;
            case 5: return asked.paid;
            case 6: return asked.letters;
            default: throw new IllegalArgumentException("nothing is told by this number");
        }
    }

    public int due(int item) throws IndexOutOfBoundsException {
        if (!isItem(item)) {
            throw new IndexOutOfBoundsException("no such item");
        }
        return dueYearOf(items.get(item));
    }

    public int dueAnew(int item) throws IndexOutOfBoundsException {
        if (!isItem(item)) {
            throw new IndexOutOfBoundsException("no such item");
        }
        Item asked = items.get(item);
        int sleep = sleepOf(asked);
        int waitedFor = asked.touched;
        for (int slept = 0; slept < sleep; slept++) {
            waitedFor++;
        }
        return waitedFor;
    }

    public int purse(int state) throws IndexOutOfBoundsException {
        if (!isState(state)) {
            throw new IndexOutOfBoundsException("no such state");
        }
        return purses[state];
    }

    public int purseAnew(int state) throws IndexOutOfBoundsException {
        if (!isState(state)) {
            throw new IndexOutOfBoundsException("no such state");
        }
        int sum = 0;
        for (int i = 0; i < notes.size(); i++) {
            Note note = notes.get(i);
            if (note.state == state) {
                sum += note.change;
            }
        }
        return sum;
    }

    public int fined(int holder) throws IndexOutOfBoundsException {
        if (!isHolder(holder)) {
            throw new IndexOutOfBoundsException("no such holder");
        }
        return holders.get(holder).fined;
    }

    public int finders() {
        return findersGot;
    }

    // ---- what there is

    private static boolean isState(int number) {
        return number >= 0 && number < STATES;
    }

    private static boolean isKind(int number) {
        return number >= 0 && number < KINDS.length;
    }

    private boolean isHolder(int number) {
        return number >= 0 && number < holders.size();
    }

    private boolean isOwner(int number) {
        return number >= 0 && number < owners.size();
    }

    private boolean isItem(int number) {
        return number >= 0 && number < items.size();
    }

    private static int kindOf(String typed) {
        for (int kind = 0; kind < KINDS.length; kind++) {
            if (KINDS[kind].word.equals(typed)) {
                return kind;
            }
        }
        return NONE;
    }

    // ---- when and where items are due

    private static int placeOfLaw(int state, int kind) {
        return state * KINDS.length + kind;
    }

    private int sleepBy(int state, int kind, int touched) {
        if (!isState(state) || !isKind(kind)) {
            return 0;
        }
        return Since.valueIn(laws[placeOfLaw(state, kind)], touched);
    }

    private int sleepOf(Item item) {
        return sleepBy(stateOf(item), item.kind, item.touched);
    }

    private int dueYearOf(Item item) {
        return item.touched + sleepOf(item);
    }

    private boolean isLate(Item item) {
        return dueYearOf(item) <= now;
    }

    private static int stateOf(Item item) {
        // A holder may merge after the payment, and what is paid stays with the state that got it.
        if (item.how != HELD) {
            return item.paidTo;
        }
        if (item.owner == null) {
            return item.holder.home;
        }
        return Since.valueIn(item.owner.address, item.touched);
    }

    // ---- reports, fines, claims

    private int reportOrFine() {
        int reported = 0;
        for (int i = 0; i < items.size(); i++) {
            Item item = items.get(i);
            if (item.how == HELD && isLate(item)) {
                if (canBeReported(item)) {
                    report(item);
                    reported++;
                } else {
                    item.holder.fined += item.amount * FINE_OF_100 / 100;
                }
            }
        }
        return reported;
    }

    private boolean canBeReported(Item item) {
        return item.amount < REPORTED_WITHOUT_LETTER_BELOW || item.lastLetter == now - 1;
    }

    private void report(Item item) {
        item.paidTo = stateOf(item);
        item.paid = Math.max(0, item.amount - item.letters * LETTER_COST);
        item.how = PAID;
        enter(item.paidTo, item.paid);
    }

    private void enter(int state, int change) {
        if (isState(state)) {
            purses[state] += change;
            notes.add(new Note(state, change));
        }
    }

    private boolean mayClaim(int number, Item item) {
        if (!isOwner(number) || item.owner == null) {
            return false;
        }
        Owner who = owners.get(number);
        if (who.dead) {
            return false;
        }
        return item.owner == who || item.owner.dead && item.owner.hasHeir(number);
    }

    private boolean canSplit(Holder where) {
        for (int i = 0; i < items.size(); i++) {
            Item item = items.get(i);
            if (item.isHeldAt(where) && item.kind == SHARE && item.amount > MOST_SPLIT_AMOUNT / 2) {
                return false;
            }
        }
        return true;
    }

    // ---- what is kept

    private enum Kind {
        ACCOUNT("account", 5), CHEQUE("cheque", 3), SHARE("share", 4), BOX("box", 6), WAGE("wage", 1), CARD("card", 2);

        final String word;
        final int firstSleep;

        Kind(String word, int firstSleep) {
            this.word = word;
            this.firstSleep = firstSleep;
        }
    }

    /** What counts from a year on, with all that counted earlier: a law of a state, an address of an owner. */
    private static final class Since {
        final int from;
        final Since earlier;
        int value;

        Since(int from, int value, Since earlier) {
            this.from = from;
            this.value = value;
            this.earlier = earlier;
        }

        static Since toldAfter(Since latest, int from, int value) {
            // Of several of one year only the last one counts, so the others need not be kept.
            if (latest != null && latest.from == from) {
                latest.value = value;
                return latest;
            }
            return new Since(from, value, latest);
        }

        static int valueIn(Since latest, int asked) {
            for (Since told = latest; told != null; told = told.earlier) {
                if (told.from <= asked) {
                    return told.value;
                }
            }
            return NONE;
        }
    }

    private static final class Holder {
        final int number;
        final int home;
        boolean merged = false;
        int fined = 0;

        Holder(int number, int home) {
            this.number = number;
            this.home = home;
        }
    }

    private static final class Owner {
        Since address;
        boolean dead = false;
        private int heirBits = 0;

        Owner(Since address) {
            this.address = address;
        }

        boolean hasHeir(int number) {
            return (heirBits >> number & 1) != 0;
        }

        boolean addHeir(int number) {
            boolean isNew = !hasHeir(number);
            heirBits |= 1 << number;
            return isNew;
        }
    }

    private static final class Item {
        final int kind;
        final Owner owner;
        Holder holder;
        int amount;
        int touched;
        int how = HELD;
        int letters = 0;
        int lastLetter = NONE;
        int paidTo = NONE;
        int paid = 0;

        Item(int kind, Holder holder, Owner owner, int amount, int touched) {
            this.kind = kind;
            this.holder = holder;
            this.owner = owner;
            this.amount = amount;
            this.touched = touched;
        }

        boolean isHeldAt(Holder where) {
            return how == HELD && holder == where;
        }
    }

    /** What came into the purse of a state, or below 0 went out of it. */
    private static final class Note {
        final int state;
        final int change;

        Note(int state, int change) {
            this.state = state;
            this.change = change;
        }
    }
}
