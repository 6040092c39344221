/** What the tests share: comparing answers, and calls that must be refused and leave all as it was. */
final class Check {
    /** Calls that bring a new object somewhere; told twice, they make two objects that hold the same. */
    interface Story {
        void tell(Escheatry x);

        default Story then(Story next) {
            return x -> {
                tell(x);
                next.tell(x);
            };
        }
    }

    interface Call {
        void on(Escheatry x);
    }

    static final Class<? extends RuntimeException> INDEX = IndexOutOfBoundsException.class;
    static final Class<? extends RuntimeException> ARGUMENT = IllegalArgumentException.class;
    static final Class<? extends RuntimeException> STATE = IllegalStateException.class;

    private static String sentence = "";
    private static int sentences = 0;
    private static int checked = 0;
    private static int checkedHere = 0;
    private static int wrong = 0;

    private Check() {
    }

    /** Runs each test; one that throws is wrong, and the others run still. */
    static void run(Runnable... tests) {
        for (Runnable test : tests) {
            try {
                test.run();
            } catch (RuntimeException e) {
                StackTraceElement[] trace = e.getStackTrace();
                fail("threw " + e + (trace.length > 1 ? " in " + trace[0] + " of " + trace[1] : ""));
            }
        }
    }

    /** What is checked from now on is due by this sentence. */
    static void begin(String next) {
        leave();
        sentence = next;
        sentences++;
        checkedHere = 0;
    }

    private static void leave() {
        if (sentences > 0 && checkedHere == 0) {
            fail("nothing is checked of it");
        }
    }

    static void fail(String what) {
        wrong++;
        System.out.println(sentence + " | " + what);
    }

    static void same(String what, Object got, Object want) {
        checked++;
        checkedHere++;
        if (!want.equals(got)) {
            fail(what + " answered " + got + ", due is " + want);
        }
    }

    static Escheatry after(Story story) {
        Escheatry x = new Escheatry();
        story.tell(x);
        return x;
    }

    /** Behind the story the call throws just this class, and whatever can be found out then is as without the call. */
    static void refused(String what, Class<? extends RuntimeException> want, Story story, Call call) {
        same(what + " throws", thrownBy(() -> call.on(after(story))), want.getSimpleName());
        String[] with = Probe.all(x -> {
            story.tell(x);
            thrownBy(() -> call.on(x));
        });
        String[] without = Probe.all(story);
        for (int i = 0; i < with.length; i++) {
            same("behind " + what, with[i], without[i]);
        }
    }

    /** The name of what is thrown, with a mark if another class than Escheatry threw it, or "nothing". */
    static String thrownBy(Runnable call) {
        try {
            call.run();
            return "nothing";
        } catch (RuntimeException e) {
            StackTraceElement[] trace = e.getStackTrace();
            boolean own = trace.length > 0 && trace[0].getClassName().startsWith("Escheatry");
            return e.getClass().getSimpleName() + (own ? "" : " of the machine");
        }
    }

    /** Numbers that are not in the range: the nearest ones, the farthest ones, and what a wrap-around could bring in. */
    static int[] outside(int least, int most) {
        int[] all = {least - 1, most + 1, Integer.MIN_VALUE, Integer.MAX_VALUE, least + (1 << 8), least + (1 << 16)};
        return java.util.Arrays.stream(all).filter(number -> number < least || number > most).toArray();
    }

    static void end(String test) {
        leave();
        System.out.println(test + ": " + (sentences > 0 ? sentences + " sentences, " : "") + checked + " checks, " + wrong + " wrong");
        if (wrong != 0 || checked == 0) {
            System.exit(1);
        }
    }
}
