/** What the tests share: comparing answers, expecting exceptions, typing words, telling all that can be asked. */
final class Check {
    interface Call {
        void run();
    }

    static final Class<? extends RuntimeException> INDEX = IndexOutOfBoundsException.class;
    static final Class<? extends RuntimeException> ARGUMENT = IllegalArgumentException.class;
    static final Class<? extends RuntimeException> STATE = IllegalStateException.class;
    static final String[] WORDS = {"account", "cheque", "share", "box", "wage", "card"};
    static final int ACCOUNT = 0, CHEQUE = 1, SHARE = 2, BOX = 3, WAGE = 4, CARD = 5;

    private static int checked = 0;
    private static int wrong = 0;

    private Check() {
    }

    static void same(String what, Object got, Object want) {
        checked++;
        if (!want.equals(got)) {
            wrong++;
            System.out.println(what + " answered " + got + ", due is " + want);
        }
    }

    /** The call throws just this class, by a throw statement of Escheatry itself, and changes nothing that can be asked. */
    static void refused(String what, Class<? extends RuntimeException> want, Escheatry x, Call call) {
        String before = all(x);
        same(what + " throws", thrownBy(call), want.getSimpleName());
        same("all after " + what, all(x), before);
    }

    /** The name of what the call throws, with a mark if the machine threw it, or "nothing". */
    static String thrownBy(Call call) {
        try {
            call.run();
            return "nothing";
        } catch (RuntimeException e) {
            StackTraceElement[] trace = e.getStackTrace();
            boolean own = trace.length > 0 && trace[0].getClassName().startsWith("Escheatry");
            return e.getClass().getSimpleName() + (own ? "" : " of the machine");
        }
    }

    static void type(Escheatry x, String word) {
        for (int i = 0; i < word.length(); i++) {
            x.letter(word.charAt(i));
        }
    }

    static int tell(Escheatry x, int kind, int holder, int owner, int amount) {
        type(x, WORDS[kind]);
        return x.item(holder, owner, amount);
    }

    static int items(Escheatry x) {
        return count(i -> x.due(i));
    }

    static int holders(Escheatry x) {
        return count(h -> x.fined(h));
    }

    private interface Question {
        int ask(int number);
    }

    private static int count(Question question) {
        int count = 0;
        try {
            while (true) {
                question.ask(count);
                count++;
            }
        } catch (IndexOutOfBoundsException e) {
            return count;
        }
    }

    static String all(Escheatry x) {
        StringBuilder told = new StringBuilder("year ").append(x.year()).append(" finders ").append(x.finders());
        for (int s = 0; s < 5; s++) {
            told.append(" purse ").append(x.purse(s)).append('/').append(x.purseAnew(s));
        }
        int holders = holders(x);
        for (int h = 0; h < holders; h++) {
            told.append(" holder ").append(x.fined(h)).append('/').append(x.audit(h, 1)).append('/').append(x.audit(h, 3));
        }
        int items = items(x);
        for (int i = 0; i < items; i++) {
            told.append(" item ").append(x.due(i)).append('/').append(x.dueAnew(i));
            for (int what = 0; what <= 6; what++) {
                told.append(',').append(x.about(i, what));
            }
        }
        return told.toString();
    }

    static void end(String test) {
        System.out.println(test + ": " + checked + " checks, " + wrong + " wrong");
        if (wrong != 0 || checked == 0) {
            System.exit(1);
        }
    }
}
