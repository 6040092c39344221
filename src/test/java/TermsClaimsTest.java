/** Terms, 'Claims, audits'. */
public final class TermsClaimsTest {
    public static void main(String[] args) {
        Check.run(TermsClaimsTest::claimedEver, TermsClaimsTest::claimedByAnHeirWhoLives, TermsClaimsTest::claimedThen,
            TermsClaimsTest::purseOfTheStatePays, TermsClaimsTest::finderGetsATenth, TermsClaimsTest::heirsOneByOne,
            TermsClaimsTest::heirOfAnHeir, TermsClaimsTest::auditLooksAtEachSoMany,
            TermsClaimsTest::auditFindsWhatIsLate, TermsClaimsTest::auditTimesAndDivided,
            TermsClaimsTest::auditWithoutAny);
        Doc.quotedWhole("Claims, audits");
        Check.end("TermsClaimsTest");
    }

    private static void says(String sentence) {
        Doc.says("Claims, audits", sentence);
    }

    /** Wages of these amounts of owner 0 in the state 0 are reported in the year 1; owners 1 to 7 are others. */
    private static Check.Story paid(int... amounts) {
        return x -> {
            x.holder(4);
            for (int owner = 0; owner < 8; owner++) {
                x.owner(owner % 5);
            }
            for (int amount : amounts) {
                Tell.item(x, Tell.WAGE, 0, 0, amount);
            }
            x.pass(1);
        };
    }

    private static void claimedEver() {
        says("What is PAID can be claimed, ever, by its owner,");
        Check.Story two = paid(40, 30);
        Escheatry x = Check.after(two);
        Check.same("in the year of the report", x.claim(0, 0, false), 40);
        Tell.until(x, 400);
        Check.same("in the last year", x.claim(0, 1, false), 30);
        Check.Story each = paid(40, 1000).then(y -> y.claim(0, 0, false)).then(y -> Tell.item(y, Tell.BOX, 0, 0, 5));
        Check.refused("what is CLAIMED", Check.STATE, each, y -> y.claim(0, 0, false));
        Check.refused("what is HELD and due", Check.STATE, each, y -> y.claim(0, 1, false));
        Check.refused("what is HELD and not due", Check.STATE, each, y -> y.claim(0, 2, false));
        for (int other = 1; other < 8; other++) {
            int owner = other;
            Check.refused("by owner " + other, Check.STATE, two, y -> y.claim(owner, 0, true));
        }
        Check.Story nobodys = paid().then(y -> {
            Tell.item(y, Tell.WAGE, 0, Tell.NONE, 40);
            y.pass(1);
            y.death(7);
        });
        for (int any = 0; any < 8; any++) {
            int owner = any;
            Check.refused("nobody's, by owner " + any, Check.STATE, nobodys, y -> y.claim(owner, 0, true));
        }
    }

    private static void claimedByAnHeirWhoLives() {
        says("or, if that one is dead, by an heir who lives;");
        Check.Story heir = paid(40, 30).then(x -> x.heir(0, 1));
        Check.refused("an heir of one who lives", Check.STATE, heir, x -> x.claim(1, 0, false));
        Check.Story dead = heir.then(x -> x.death(0));
        Check.refused("the dead one", Check.STATE, dead, x -> x.claim(0, 0, false));
        Check.refused("one who is no heir", Check.STATE, dead, x -> x.claim(2, 0, false));
        Escheatry x = Check.after(dead);
        Check.same("an heir who lives", x.claim(1, 0, true), 36);
        x.heir(0, 2);
        Check.same("an heir told behind the death", x.claim(2, 1, false), 30);
        Check.Story deadHeir = dead.then(y -> y.death(1));
        Check.refused("an heir who is dead", Check.STATE, deadHeir, y -> y.claim(1, 0, false));
        Check.Story other = paid(40).then(y -> {
            y.heir(1, 0);
            y.heir(2, 1);
            y.death(0);
            y.death(2);
        });
        Check.refused("one whose heir the dead one is", Check.STATE, other, y -> y.claim(1, 0, false));
        Escheatry last = new Escheatry();
        last.holder(0);
        last.owner(0);
        Tell.item(last, Tell.WAGE, 0, 0, 9);
        last.death(0);
        last.pass(1);
        last.owner(1);
        last.heir(0, 1);
        Check.same("an heir who was told last of all", last.claim(1, 0, false), 9);
    }

    private static void claimedThen() {
        says("it is CLAIMED then:");
        Escheatry x = Check.after(paid(40, 30));
        Check.same("PAID ahead of it", x.about(0, 0), Escheatry.PAID);
        x.claim(0, 0, false);
        Check.same("CLAIMED", x.about(0, 0), Escheatry.CLAIMED);
        Check.same("the other one is not", x.about(1, 0), Escheatry.PAID);
        Check.same("what it was PAID", x.about(0, 5), 40);
        Check.same("the state to which it was", x.about(0, 3), 0);
        x.pass(20);
        Check.same("CLAIMED still", x.about(0, 0), Escheatry.CLAIMED);
    }

    private static void purseOfTheStatePays() {
        says("the purse of the state pays what it got,");
        Escheatry x = Check.after(paid(40, 30, 1000));
        Tell.item(x, Tell.WAGE, 0, 3, 20);
        x.send(2);
        x.pass(1);
        Check.same("the purse got", x.purse(0), 1068);
        int[][] itemFinderPurse = {{0, 1, 1028}, {1, 0, 998}, {2, 1, 0}};
        for (int[] each : itemFinderPurse) {
            x.claim(0, each[0], each[1] == 1);
            Check.same("purse without item " + each[0], x.purse(0), each[2]);
            Check.same("purse anew without item " + each[0], x.purseAnew(0), each[2]);
        }
        Check.same("another purse", x.purse(3), 20);
        x.claim(3, 3, true);
        Check.same("that one too", x.purse(3) + x.purseAnew(3), 0);
    }

    private static void finderGetsATenth() {
        says("a finder, if there is one, gets a tenth of that, rounded down, the one who claims the rest.");
        int[] amounts = {1, 9, 10, 11, 19, 20, 49};
        int[] tenths = {0, 0, 1, 1, 1, 2, 4};
        Escheatry x = Check.after(paid(amounts));
        Escheatry y = Check.after(paid(amounts));
        int sum = 0;
        for (int item = 0; item < amounts.length; item++) {
            Check.same("the rest of " + amounts[item], x.claim(0, item, true), amounts[item] - tenths[item]);
            sum += tenths[item];
            Check.same("all tenths", x.finders(), sum);
            Check.same("without a finder", y.claim(0, item, false), amounts[item]);
            Check.same("no tenths", y.finders(), 0);
        }
        Escheatry nothing = Tell.place();
        Tell.item(nothing, Tell.WAGE, 0, 0, 2);
        nothing.send(0);
        nothing.pass(1);
        Check.same("of nothing", nothing.claim(0, 0, true), 0);
        Check.same("nothing", nothing.finders(), 0);
        Escheatry most = Tell.place();
        Tell.item(most, Tell.SHARE, 0, 0, 7812);
        for (int split = 0; split < 7; split++) {
            most.split(0);
        }
        most.pass(3);
        most.send(0);
        most.pass(1);
        Check.same("of the most that can be", most.claim(0, 0, true), 999934 - 99993);
        Check.same("a tenth", most.finders(), 99993);
    }

    private static void heirsOneByOne() {
        says("Heirs are told one by one;");
        Check.Story seven = paid(1, 2, 3, 4, 5, 6, 7).then(x -> {
            for (int heir = 7; heir >= 1; heir--) {
                Check.same("heir " + heir, x.heir(0, heir), true);
            }
            x.death(0);
        });
        Escheatry x = Check.after(seven);
        for (int heir = 1; heir < 8; heir++) {
            Check.same("heir " + heir + " claims", x.claim(heir, heir - 1, false), heir);
        }
        Check.Story two = paid(10).then(y -> {
            y.heir(0, 7);
            y.heir(0, 1);
            y.death(0);
        });
        for (int heir = 2; heir < 7; heir++) {
            int none = heir;
            Check.refused("not told, " + heir, Check.STATE, two, y -> y.claim(none, 0, false));
        }
    }

    private static void heirOfAnHeir() {
        says("an heir of an heir is none.");
        Check.Story chain = paid(10).then(x -> {
            x.heir(0, 1);
            x.heir(1, 2);
            x.death(0);
        });
        Check.refused("of an heir who lives", Check.STATE, chain, x -> x.claim(2, 0, false));
        Check.refused("of an heir who is dead", Check.STATE, chain.then(x -> x.death(1)), x -> x.claim(2, 0, false));
        Escheatry x = Check.after(chain);
        x.heir(0, 2);
        Check.same("an heir as well", x.claim(2, 0, false), 10);
    }

    /** Items at holder 0, one for each letter: L late in the year 1, n not late, p PAID; at holder 1 one behind each. */
    private static Escheatry row(String letters) {
        Escheatry x = Tell.place();
        for (char letter : letters.toCharArray()) {
            Tell.item(x, letter == 'n' ? Tell.BOX : Tell.WAGE, 0, 0, letter == 'p' ? 1 : 100);
        }
        x.pass(1);
        return x;
    }

    private static void sameAudits(String letters, int... finds) {
        Escheatry x = row(letters);
        for (int each = 1; each <= finds.length; each++) {
            Check.same(letters + " audited by " + each, x.audit(0, each), finds[each - 1]);
        }
    }

    private static void auditLooksAtEachSoMany() {
        says("An audit of a holder looks at the first one of its items that are HELD, by numbers, and each so many behind that;");
        // One late item alone says which ones are looked at: what is found is 0 where it is not.
        sameAudits("Lnnnnnnnnnnn", 1, 2, 3, 4, 4, 6, 6, 6, 6, 6);
        sameAudits("nLnnnnnnnnnn", 1, 0, 0, 0, 0, 0, 0, 0, 0, 0);
        sameAudits("nnnnnnLnnnnn", 1, 2, 3, 0, 0, 6, 0, 0, 0, 0);
        sameAudits("nnnnnnnnnnLn", 1, 2, 0, 0, 4, 0, 0, 0, 0, 6);
        sameAudits("nnnnnnnnnnnL", 1, 0, 0, 0, 0, 0, 0, 0, 0, 0);
        // What is PAID is stepped over.
        sameAudits("pLnn", 1, 1, 3, 3);
        sameAudits("nppL", 1, 0, 0, 0);
        sameAudits("npLpL", 2, 1, 0, 0);
        Escheatry x = Tell.place();
        for (int i = 0; i < 4; i++) {
            Tell.item(x, Tell.BOX, 1, 0, 100);
            Tell.item(x, i % 2 == 1 ? Tell.WAGE : Tell.BOX, 0, 0, 100);
        }
        x.pass(1);
        Check.same("another holder's are stepped over", x.audit(0, 2), 0);
        Check.same("each of its own", x.audit(0, 1), 2);
        Check.same("each third of its own", x.audit(0, 3), 2);
        x.merge(1, 0);
        Check.same("by numbers, behind a merger", x.audit(0, 1), 2);
        Check.same("each third by numbers", x.audit(0, 3), 2);
        Check.same("each fourth by numbers", x.audit(0, 4), 0);
    }

    private static void auditFindsWhatIsLate() {
        says("what it finds is how many of these are late, due in this year or ahead of it,");
        Escheatry x = Tell.place();
        Tell.item(x, Tell.WAGE, 0, 0, 100);
        Tell.item(x, Tell.CARD, 0, 1, 100);
        Tell.item(x, Tell.CHEQUE, 0, Tell.NONE, 100);
        int[] late = {0, 1, 2, 3, 3};
        for (int year = 0; year < late.length; year++) {
            Check.same("in the year " + year, x.audit(0, 1), late[year]);
            x.pass(1);
        }
        x.contact(0, 0);
        Check.same("one is touched again", x.audit(0, 1), 2);
        x.law(2, Tell.WAGE, 0);
        Check.same("due in the year of its touch", x.audit(0, 1), 3);
    }

    private static void auditTimesAndDivided() {
        says("times how many are HELD there, divided by how many were looked at, rounded down;");
        sameAudits("LLLLL", 5, 5, 5, 5, 5, 5, 5, 5, 5, 5);
        sameAudits("L", 1, 1, 1, 1, 1, 1, 1, 1, 1, 1);
        sameAudits("Ln", 1, 2, 2, 2);
        // 6 are HELD; by 2, 1 of 3 that are looked at is late; by 3, 1 of 2.
        sameAudits("LnnnnpLpp", 2, 2, 3, 3);
        // 7 are HELD; late are, by 2, 3 of 4; by 3, 2 of 3; by 4 and by 5, 1 of 2; by 6, 2 of 2.
        sameAudits("LnLnnnL", 3, 5, 4, 3, 3, 7, 7);
        Escheatry full = Tell.place();
        Tell.items(full, 24, Tell.WAGE, 0, 0, 100);
        full.pass(1);
        for (int each = 1; each <= 10; each++) {
            Check.same("all 24 by " + each, full.audit(0, each), 24);
        }
    }

    private static void auditWithoutAny() {
        says("0 without any.");
        Escheatry none = Tell.place();
        Escheatry paid = row("ppp");
        Escheatry merged = row("LLL");
        merged.merge(0, 1);
        for (int each = 1; each <= 10; each++) {
            Check.same("none told", none.audit(0, each), 0);
            Check.same("all PAID", paid.audit(0, each), 0);
            Check.same("all at another one", merged.audit(0, each), 0);
        }
        Check.same("that other one", merged.audit(1, 2), 3);
    }
}
