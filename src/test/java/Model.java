/**
 * The document once more, held in another way than Escheatry does: tables by year, and no objects inside.
 * Each call answers a text: the answer, or the name of the exception that is due.
 */
final class Model {
    private static final String INDEX = "IndexOutOfBoundsException";
    private static final String ARGUMENT = "IllegalArgumentException";
    private static final String STATE = "IllegalStateException";
    private static final int YEARS = 401;

    private String word = "";
    private int year = 0;
    private int holders = 0;
    private final int[] home = new int[6];
    private final int[] mergedInto = {-1, -1, -1, -1, -1, -1};
    private final int[] fined = new int[6];
    private int owners = 0;
    private final int[][] address = new int[8][YEARS];
    private final boolean[] dead = new boolean[8];
    private final boolean[][] heir = new boolean[8][8];
    private final int[][][] sleep = new int[5][6][YEARS];
    private int items = 0;
    private final int[] kind = new int[24];
    private final int[] firstHolder = new int[24];
    private final int[] ownerOf = new int[24];
    private final int[] amount = new int[24];
    private final int[] touched = new int[24];
    private final int[] how = new int[24];
    private final int[][] letters = new int[24][YEARS];
    private final int[] paid = new int[24];
    private final int[] paidTo = new int[24];
    private final boolean[] found = new boolean[24];

    Model() {
        int[] first = {5, 3, 4, 6, 1, 2};
        for (int s = 0; s < 5; s++) {
            for (int k = 0; k < 6; k++) {
                java.util.Arrays.fill(sleep[s][k], first[k]);
            }
        }
    }

    private static boolean out(int number, int count) {
        return number < 0 || number >= count;
    }

    private int holderOf(int item) {
        int holder = firstHolder[item];
        while (mergedInto[holder] >= 0) {
            holder = mergedInto[holder];
        }
        return holder;
    }

    private boolean heldAt(int item, int holder) {
        return how[item] == 0 && holderOf(item) == holder;
    }

    private int state(int item) {
        if (how[item] > 0) {
            return paidTo[item];
        }
        return ownerOf[item] < 0 ? home[holderOf(item)] : address[ownerOf[item]][touched[item]];
    }

    private int dueOf(int item) {
        return touched[item] + sleep[state(item)][kind[item]][touched[item]];
    }

    private int lettersFor(int item) {
        int sum = 0;
        for (int sent : letters[item]) {
            sum += sent;
        }
        return sum;
    }

    /** An item that is paid and somebody's, looked for from this number on; that number if there is none. */
    int somePaid(int from) {
        for (int i = 0; i < 24; i++) {
            int item = (from + i) % 24;
            if (item < items && how[item] == 1 && ownerOf[item] >= 0) {
                return item;
            }
        }
        return from;
    }

    int ownerOf(int item) {
        return ownerOf[item];
    }

    /** Asks the call of this number (ModelTest.act and ModelTest.question tell which) with up to three arguments. */
    String call(int call, int a, int b, int c) {
        switch (call) {
            case 0: return letter(a);
            case 1: return out(a, 5) ? INDEX : holders == 6 ? STATE : tellHolder(a);
            case 2: return out(a, 5) ? INDEX : owners == 8 ? STATE : tellOwner(a);
            case 3: return item(a, b, c);
            case 4: return law(a, b, c);
            case 5: return move(a, b);
            case 6: return death(a);
            case 7: return heir(a, b);
            case 8: return contact(a, b);
            case 9: return send(a);
            case 10: return split(a);
            case 11: return merge(a, b);
            case 12: return pass(a);
            case 13: return claim(a, b, c == 1);
            case 14: return audit(a, b);
            default: return question(call, a, b);
        }
    }

    private String question(int call, int a, int b) {
        switch (call) {
            case 15: return "" + year;
            case 16: return about(a, b);
            case 17:
            case 18: return out(a, items) ? INDEX : "" + dueOf(a);
            case 19:
            case 20: return out(a, 5) ? INDEX : "" + purse(a);
            case 21: return out(a, holders) ? INDEX : "" + fined[a];
            default: return "" + finders();
        }
    }

    private String letter(int letter) {
        if (letter < 97 || letter > 122) {
            return ARGUMENT;
        }
        if (word.length() == 7) {
            return STATE;
        }
        word += (char) letter;
        return "" + word.length();
    }

    private String tellHolder(int state) {
        home[holders] = state;
        return "" + holders++;
    }

    private String tellOwner(int state) {
        java.util.Arrays.fill(address[owners], state);
        return "" + owners++;
    }

    private String item(int holder, int owner, int worth) {
        if (out(holder, holders) || owner != -1 && out(owner, owners)) {
            return INDEX;
        }
        if (worth < 1 || worth > 10000) {
            return ARGUMENT;
        }
        if (items == 24 || mergedInto[holder] >= 0) {
            return STATE;
        }
        int found = java.util.List.of("account", "cheque", "share", "box", "wage", "card").indexOf(word);
        word = "";
        if (found < 0) {
            return "-1";
        }
        kind[items] = found;
        firstHolder[items] = holder;
        ownerOf[items] = owner;
        amount[items] = worth;
        touched[items] = year;
        return "" + items++;
    }

    private String law(int state, int of, int years) {
        if (out(state, 5) || out(of, 6)) {
            return INDEX;
        }
        if (years < 0 || years > 20) {
            return ARGUMENT;
        }
        int before = sleep[state][of][year];
        java.util.Arrays.fill(sleep[state][of], year, YEARS, years);
        return "" + before;
    }

    private String move(int owner, int state) {
        if (out(owner, owners) || out(state, 5)) {
            return INDEX;
        }
        if (dead[owner]) {
            return STATE;
        }
        int before = address[owner][year];
        java.util.Arrays.fill(address[owner], year, YEARS, state);
        return "" + before;
    }

    private String death(int owner) {
        if (out(owner, owners)) {
            return INDEX;
        }
        if (dead[owner]) {
            return STATE;
        }
        dead[owner] = true;
        return "void";
    }

    private String heir(int owner, int other) {
        if (out(owner, owners) || out(other, owners)) {
            return INDEX;
        }
        if (owner == other) {
            return ARGUMENT;
        }
        boolean fresh = !heir[owner][other];
        heir[owner][other] = true;
        return "" + fresh;
    }

    private String contact(int owner, int holder) {
        if (out(owner, owners) || out(holder, holders)) {
            return INDEX;
        }
        if (dead[owner]) {
            return STATE;
        }
        int count = 0;
        for (int i = 0; i < items; i++) {
            if (heldAt(i, holder) && ownerOf[i] == owner) {
                touched[i] = year;
                count++;
            }
        }
        return "" + count;
    }

    private String send(int item) {
        if (out(item, items)) {
            return INDEX;
        }
        if (how[item] != 0) {
            return STATE;
        }
        letters[item][year]++;
        return "" + lettersFor(item);
    }

    private String split(int holder) {
        if (out(holder, holders)) {
            return INDEX;
        }
        int count = 0;
        for (int i = 0; i < items; i++) {
            if (heldAt(i, holder) && kind[i] == 2) {
                count++;
                if (amount[i] * 2L > 1000000L) {
                    return STATE;
                }
            }
        }
        for (int i = 0; i < items; i++) {
            if (heldAt(i, holder) && kind[i] == 2) {
                amount[i] += amount[i];
            }
        }
        return "" + count;
    }

    private String merge(int holder, int into) {
        if (out(holder, holders) || out(into, holders)) {
            return INDEX;
        }
        if (holder == into) {
            return ARGUMENT;
        }
        if (mergedInto[holder] >= 0 || mergedInto[into] >= 0) {
            return STATE;
        }
        int count = 0;
        for (int i = 0; i < items; i++) {
            count += holderOf(i) == holder ? 1 : 0;
        }
        mergedInto[holder] = into;
        return "" + count;
    }

    private String pass(int years) {
        if (years < 1 || years > 20) {
            return ARGUMENT;
        }
        if (year + years > 400) {
            return STATE;
        }
        int reported = 0;
        for (int end = year + years; year < end;) {
            year++;
            for (int i = 0; i < items; i++) {
                reported += begin(i);
            }
        }
        return "" + reported;
    }

    private int begin(int item) {
        if (how[item] != 0 || dueOf(item) > year) {
            return 0;
        }
        if (amount[item] >= 50 && letters[item][year - 1] == 0) {
            fined[holderOf(item)] += (int) (amount[item] * 5L / 100L);
            return 0;
        }
        paidTo[item] = state(item);
        how[item] = 1;
        paid[item] = Math.max(amount[item] - 2 * lettersFor(item), 0);
        return 1;
    }

    private String claim(int owner, int item, boolean hasFinder) {
        if (out(owner, owners) || out(item, items)) {
            return INDEX;
        }
        int of = ownerOf[item];
        boolean may = of >= 0 && !dead[owner] && (of == owner || dead[of] && heir[of][owner]);
        if (how[item] != 1 || !may) {
            return STATE;
        }
        how[item] = 2;
        found[item] = hasFinder;
        return "" + (paid[item] - (hasFinder ? paid[item] / 10 : 0));
    }

    private String audit(int holder, int each) {
        if (out(holder, holders)) {
            return INDEX;
        }
        if (each < 1 || each > 10) {
            return ARGUMENT;
        }
        java.util.List<Integer> held = new java.util.ArrayList<>();
        for (int i = 0; i < items; i++) {
            if (heldAt(i, holder)) {
                held.add(i);
            }
        }
        int looked = 0;
        int late = 0;
        for (int at = 0; at < held.size(); at += each) {
            looked++;
            late += dueOf(held.get(at)) <= year ? 1 : 0;
        }
        return "" + (held.isEmpty() ? 0 : late * held.size() / looked);
    }

    private String about(int item, int what) {
        if (out(item, items)) {
            return INDEX;
        }
        switch (what) {
            case 0: return "" + how[item];
            case 1: return "" + amount[item];
            case 2: return "" + touched[item];
            case 3: return "" + state(item);
            case 4: return "" + holderOf(item);
            case 5: return "" + paid[item];
            case 6: return "" + lettersFor(item);
            default: return ARGUMENT;
        }
    }

    private int purse(int state) {
        int sum = 0;
        for (int i = 0; i < items; i++) {
            sum += how[i] == 1 && paidTo[i] == state ? paid[i] : 0;
        }
        return sum;
    }

    private int finders() {
        int sum = 0;
        for (int i = 0; i < items; i++) {
            sum += found[i] ? paid[i] / 10 : 0;
        }
        return sum;
    }
}
