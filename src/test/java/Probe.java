import java.util.concurrent.Callable;

/** All that can be found out about an object. What asks by changing things has a new object each time. */
final class Probe {
    private static final int STATES = 5, KINDS = 6, HOLDERS = 6, OWNERS = 8, ITEMS = 24;
    private static final int WAYS = 12;

    private final Escheatry x;
    private final StringBuilder told = new StringBuilder();

    private Probe(Escheatry x) {
        this.x = x;
    }

    static String[] all(Check.Story story) {
        String[] all = new String[WAYS];
        for (int way = 0; way < WAYS; way++) {
            Probe probe = new Probe(Check.after(story));
            probe.ask(way);
            all[way] = probe.told.toString();
        }
        return all;
    }

    private void ask(int way) {
        switch (way) {
            case 0: questions(); break;
            case 1: lettersLeft(); break;
            case 2: word(); break;
            case 3: numbers(); break;
            case 4: laws(); break;
            case 5: addressesAndDeaths(); break;
            case 6: heirs(); break;
            case 7: claims(); break;
            case 8: nextYear(); break;
            case 9: contactsAndSplits(); break;
            case 10: itemsOfOwners(); break;
            default: lettersAndMergers(); break;
        }
    }

    private String tell(String name, Callable<Object> call) {
        String answer;
        try {
            answer = String.valueOf(call.call());
        } catch (Exception e) {
            answer = e.getClass().getSimpleName();
        }
        told.append(name).append(' ').append(answer).append('\n');
        return answer;
    }

    private void questions() {
        tell("year", () -> x.year());
        tell("finders", () -> x.finders());
        for (int s = 0; s < STATES; s++) {
            int state = s;
            tell("purse " + s, () -> x.purse(state));
            tell("purseAnew " + s, () -> x.purseAnew(state));
        }
        for (int h = 0; h < HOLDERS; h++) {
            int holder = h;
            tell("fined " + h, () -> x.fined(holder));
            tell("audit " + h, () -> x.audit(holder, 1));
        }
        boolean more = true;
        for (int i = 0; i < ITEMS && more; i++) {
            int item = i;
            more = !tell("due " + i, () -> x.due(item)).endsWith("Exception");
            for (int w = 0; w <= 6 && more; w++) {
                int what = w;
                tell("about " + i + ' ' + w, () -> x.about(item, what));
            }
        }
    }

    private void lettersLeft() {
        for (int count = 0; count < 8; count++) {
            tell("letter", () -> x.letter('a'));
        }
    }

    private void word() {
        for (int h = 0; h < HOLDERS; h++) {
            int holder = h;
            String number = tell("item at " + h, () -> x.item(holder, Escheatry.NONE, 7));
            if (!number.endsWith("Exception")) {
                int item = Integer.parseInt(number);
                tell("due", () -> x.due(item));
            }
        }
    }

    private void numbers() {
        tell("holder", () -> x.holder(0));
        tell("owner", () -> x.owner(0));
    }

    private void laws() {
        for (int s = 0; s < STATES; s++) {
            for (int k = 0; k < KINDS; k++) {
                int state = s;
                int kind = k;
                tell("law " + s + ' ' + k, () -> x.law(state, kind, 13));
            }
        }
    }

    private void addressesAndDeaths() {
        for (int o = 0; o < OWNERS; o++) {
            int owner = o;
            tell("move " + o, () -> x.move(owner, 0));
            tell("death " + o, () -> {
                x.death(owner);
                return "told";
            });
        }
    }

    private void heirs() {
        for (int o = 0; o < OWNERS; o++) {
            for (int h = 0; h < OWNERS; h++) {
                int owner = o;
                int heir = h;
                tell("heir " + o + ' ' + h, () -> x.heir(owner, heir));
            }
        }
    }

    private void claims() {
        for (int i = 0; i < ITEMS; i++) {
            for (int o = 0; o < OWNERS; o++) {
                int item = i;
                int owner = o;
                tell("claim " + o + ' ' + i, () -> x.claim(owner, item, true));
            }
        }
    }

    private void nextYear() {
        tell("pass", () -> x.pass(1));
        questions();
    }

    private void contactsAndSplits() {
        tell("pass", () -> x.pass(1));
        for (int h = 0; h < HOLDERS; h++) {
            int holder = h;
            for (int o = 0; o < OWNERS; o++) {
                int owner = o;
                tell("contact " + o + ' ' + h, () -> x.contact(owner, holder));
            }
            tell("split " + h, () -> x.split(holder));
        }
    }

    /** Where a new item of each owner is: that alone tells the address of a dead one. */
    private void itemsOfOwners() {
        itemOf(Escheatry.NONE);
        for (int o = 0; o < OWNERS; o++) {
            for (char letter : "box".toCharArray()) {
                Check.thrownBy(() -> x.letter(letter));
            }
            itemOf(o);
        }
    }

    private void itemOf(int owner) {
        String number = "Exception";
        for (int h = 0; h < HOLDERS && number.endsWith("Exception"); h++) {
            int holder = h;
            number = tell("item of " + owner + " at " + h, () -> x.item(holder, owner, 1));
        }
        if (!number.endsWith("Exception")) {
            int item = Integer.parseInt(number);
            tell("its state", () -> x.about(item, 3));
        }
    }

    private void lettersAndMergers() {
        for (int i = 0; i < ITEMS; i++) {
            int item = i;
            tell("send " + i, () -> x.send(item));
        }
        for (int h = 0; h < HOLDERS; h++) {
            int holder = h;
            int into = (h + 1) % HOLDERS;
            tell("merge " + h, () -> x.merge(holder, into));
        }
    }
}
