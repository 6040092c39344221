/** All promises together: long runs of calls, made by a fixed rule, each answer against the model's. */
public final class ModelTest {
    private static final int CALLS = 23;
    private static final int LAST_ALONE = 15;
    private static final int RUNS = 2000;
    private static final int LENGTH = 512;
    private static final int[] ODD = {-1, -2, Integer.MIN_VALUE, Integer.MAX_VALUE, 5, 6, 7, 8, 11, 21, 24, 400, 10001};

    private final int[][] seen;
    private long seed;
    private Escheatry x;
    private Model model;
    private int made;

    private ModelTest(long seed, int[][] seen) {
        this.seed = seed;
        this.seen = seen;
    }

    public static void main(String[] args) {
        int[][] seen = new int[CALLS][2];
        int wrong = 0;
        int thrown = 0;
        for (int run = 0; run < RUNS && wrong == 0; run++) {
            wrong += new ModelTest(run, seen).run(run);
        }
        for (int run = 0; run < 5 && wrong == 0; run++) {
            thrown += new ModelTest(RUNS + run, seen).runOn();
        }
        System.out.println("ModelTest: " + RUNS + " runs of " + LENGTH + " calls, " + wrong + " wrong; " + thrown
            + " exceptions of the machine far behind the 512th call");
        if (wrong + thrown != 0 || !enough(seen)) {
            System.exit(1);
        }
    }

    /** The runs are worth something only while they answer, and refuse, each call often. */
    private static boolean enough(int[][] seen) {
        boolean enough = true;
        for (int call = 0; call < CALLS; call++) {
            boolean refuses = call != 15 && call != 22;
            if (seen[call][0] < 1000 || refuses && seen[call][1] < 100) {
                enough = false;
                System.out.println("call " + call + ": answered " + seen[call][0] + ", refused " + seen[call][1] + " times");
            }
        }
        return enough;
    }

    private int below(int bound) {
        seed = seed * 6364136223846793005L + 1442695040888963407L;
        return (int) ((seed >>> 33) % bound);
    }

    private int run(int run) {
        x = new Escheatry();
        model = new Model();
        made = 0;
        int wrong = 0;
        while (made < LENGTH && wrong == 0) {
            int call = next(made);
            if (call == 3 && below(10) > 0) {
                wrong += type(run, Tell.WORDS[below(Tell.WORDS.length)]);
            }
            if (call == 13 && below(2) == 0) {
                int item = model.somePaid(below(24));
                wrong += compare(run, call, below(2) == 0 ? model.ownerOf(item) : below(8), item, below(2));
            } else {
                wrong += compare(run, call, first(call), second(call), third(call));
            }
        }
        return wrong;
    }

    private int type(int run, String word) {
        int wrong = 0;
        for (int i = 0; i < word.length(); i++) {
            wrong += compare(run, 0, word.charAt(i), 0, 0);
        }
        return wrong;
    }

    private int compare(int run, int call, int a, int b, int c) {
        if (made == LENGTH) {
            return 0;
        }
        made++;
        String got = ask(x, call, a, b, c);
        String want = model.call(call, a, b, c);
        seen[call][want.endsWith("Exception") ? 1 : 0]++;
        if (got.equals(want)) {
            return 0;
        }
        System.out.println("run " + run + ", call " + made + ": number " + call + " (" + a + ", " + b + ", " + c
            + ") answered " + got + ", due is " + want);
        return 1;
    }

    /** Behind the 512th call the answers are free, but no call may be thrown out of by the machine. */
    private int runOn() {
        Escheatry x = new Escheatry();
        int thrown = 0;
        for (int made = 0; made < 20000; made++) {
            int call = below(CALLS);
            String got = ask(x, call, first(call), second(call), third(call));
            thrown += got.endsWith("machine") ? 1 : 0;
        }
        return thrown;
    }

    private int next(int made) {
        if (made < 12) {
            return 1 + below(2);
        }
        int kind = below(20);
        if (kind < 4) {
            return 3;
        }
        if (kind < 6) {
            return 12;
        }
        if (kind == 6) {
            // These shut things for good, so they come seldom.
            return below(6) == 0 ? below(2) == 0 ? 6 : 11 : 9;
        }
        if (kind == 7) {
            return 13;
        }
        int call = kind < 14 ? below(LAST_ALONE) : LAST_ALONE + below(CALLS - LAST_ALONE);
        return (call == 6 || call == 11 || call == 0) && below(8) > 0 ? 8 : call;
    }

    private int odd(int usual) {
        return below(60) == 0 ? ODD[below(ODD.length)] : usual;
    }

    private int first(int call) {
        switch (call) {
            case 0: return below(20) == 0 ? below(65536) : 'a' + below(26);
            case 1: case 2: case 4: case 19: case 20: return odd(below(5));
            case 3: case 10: case 11: case 14: case 21: return odd(below(6));
            case 5: case 6: case 7: case 8: case 13: return odd(below(8));
            case 12: return odd(below(6) == 0 ? 1 + below(20) : 1 + below(3));
            default: return odd(below(24));
        }
    }

    private int second(int call) {
        switch (call) {
            case 3: return odd(below(9) - 1);
            case 4: case 8: case 11: return odd(below(6));
            case 5: return odd(below(5));
            case 7: return odd(below(8));
            case 14: return odd(1 + below(10));
            case 16: return odd(below(7));
            default: return odd(below(24));
        }
    }

    private int third(int call) {
        switch (call) {
            case 3: return odd(below(3) == 0 ? 1 + below(60) : 1 + below(10000));
            case 4: return odd(below(2) == 0 ? below(21) : below(4));
            default: return below(2);
        }
    }

    private static String ask(Escheatry x, int call, int a, int b, int c) {
        String[] answer = new String[1];
        String thrown = Check.thrownBy(() -> answer[0] = call < LAST_ALONE ? act(x, call, a, b, c) : question(x, call, a, b));
        return answer[0] == null ? thrown : answer[0];
    }

    private static String act(Escheatry x, int call, int a, int b, int c) {
        switch (call) {
            case 0: return "" + x.letter((char) a);
            case 1: return "" + x.holder(a);
            case 2: return "" + x.owner(a);
            case 3: return "" + x.item(a, b, c);
            case 4: return "" + x.law(a, b, c);
            case 5: return "" + x.move(a, b);
            case 6: x.death(a); return "void";
            case 7: return "" + x.heir(a, b);
            case 8: return "" + x.contact(a, b);
            case 9: return "" + x.send(a);
            case 10: return "" + x.split(a);
            case 11: return "" + x.merge(a, b);
            case 12: return "" + x.pass(a);
            case 13: return "" + x.claim(a, b, c == 1);
            default: return "" + x.audit(a, b);
        }
    }

    private static String question(Escheatry x, int call, int a, int b) {
        switch (call) {
            case 15: return "" + x.year();
            case 16: return "" + x.about(a, b);
            case 17: return "" + x.due(a);
            case 18: return "" + x.dueAnew(a);
            case 19: return "" + x.purse(a);
            case 20: return "" + x.purseAnew(a);
            case 21: return "" + x.fined(a);
            default: return "" + x.finders();
        }
    }
}
