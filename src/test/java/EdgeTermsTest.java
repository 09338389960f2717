/** The boundary cases that the public face and the terms name, but for THE TAPE and SHELVES: a test for each sentence. */
public final class EdgeTermsTest {
    public static void main(String[] args) {
        face();
        whatThereIs();
        heirs();
        comingOfAge();
        using();
        dying();
        theYear();
        refusals();
        Due.end("EdgeTermsTest");
    }

    private static void face() {
        Due.edge("NONE = -1", () -> Due.due("NONE", CorkSaysWhen.NONE, -1));
        Due.edge("An object is used for at most 512 calls after it has been made", () -> {
            CorkSaysWhen x = new CorkSaysWhen();
            for (int call = 1; call <= 511; call++) {
                Due.due("call " + call, x.joyOf(8), Due.BAD);
            }
            Due.due("call 512", x.status(12), 511);
        });
    }

    private static void whatThereIs() {
        Due.edge("STORE (0 to 9999 drops; 660 at first)", () -> {
            CorkSaysWhen x = new CorkSaysWhen();
            Due.due("at first", x.status(1), 660);
            Due.bounds(x, "tell(0, v)", 0, 9999, v -> x.tell(0, v));
            Due.due("the most", x.status(1), 9999);
            Due.due("the least", x.tell(0, 0) + x.status(1), 9999);
        });
        Due.edge("YEAR (0 to 999; 0 at first)", () -> {
            CorkSaysWhen x = new CorkSaysWhen();
            Due.due("at first", x.status(2), 0);
            Due.bounds(x, "tell(1, v)", 0, 999, v -> x.tell(1, v));
            Due.due("the most", x.status(2), 999);
            Due.due("the least", x.tell(1, 0) + x.status(2), 999);
        });
        Due.edge("RULE (0 thimble, 1 tenth, 2 even; 0 at first)", () -> {
            CorkSaysWhen x = Due.of("heir 0 0 0; heir 0 0 0; store 500");
            Due.due("at first", x.status(3), 0);
            Due.due("thimble", x.gets(0), 60);
            Due.bounds(x, "tell(2, v)", 0, 2, v -> x.tell(2, v));
            Due.due("even", x.gets(0), 250);
            Due.due("the most", x.tell(2, 1), 2);
            Due.due("a tenth", x.gets(0), 50);
        });
        Due.edge("JOY of THINGS 0 to 7 (0 to 9; of the i-th i and 1 at first)", () -> {
            CorkSaysWhen x = new CorkSaysWhen();
            for (int thing = 0; thing < 8; thing++) {
                Due.due("at first, of " + thing, x.joyOf(thing), thing + 1);
            }
            Due.bounds(x, "joy(i, 5)", 0, 7, i -> x.joy(i, 5));
            Due.bounds(x, "joy(3, v)", 0, 9, v -> x.joy(3, v));
            Due.due("the most", x.joyOf(3), 9);
            Due.due("the first", x.joyOf(0), 5);
            Due.due("the last", x.joyOf(7), 5);
        });
    }

    private static void heirs() {
        Due.edge("HEIRS have numbers, 0 on, 10 at most", () -> {
            CorkSaysWhen x = new CorkSaysWhen();
            for (int i = 0; i < 10; i++) {
                Due.due("the number", x.born(0, i, 0, -1), i);
            }
            Due.unchanged(x, () -> {
                Due.refused(x, "the eleventh", Due.FULL, () -> x.born(0, 0, 0, -1));
            });
            Due.due("how many", x.status(0), 10);
            Due.due("the last one's a", x.heirOf(9, 1), 9);
            Due.unchanged(x, () -> {
                Due.refused(x, "there is no tenth number", Due.BAD, () -> x.heirOf(10, 1));
            });
        });
        Due.edge("each of a KIND: 0 HEIR; .. 5 EXPERT", () -> {
            CorkSaysWhen x = new CorkSaysWhen();
            Due.bounds(x, "born(kind, 0, 0, NONE)", 0, 5, kind -> x.born(kind, 0, 0, -1));
            Due.due("the least", x.heirOf(0, 0), 0);
            Due.due("the most", x.heirOf(1, 0), 5);
        });
        Due.edge("a (0 to 9)", () -> {
            CorkSaysWhen x = new CorkSaysWhen();
            Due.bounds(x, "born(0, a, 0, NONE)", 0, 9, a -> x.born(0, a, 0, -1));
            Due.due("the least", x.heirOf(0, 1), 0);
            Due.due("the most", x.heirOf(1, 1), 9);
        });
        Due.edge("FROM (the number of an HEIR ahead of him, or NONE: of the first one)", () -> {
            CorkSaysWhen x = new CorkSaysWhen();
            Due.unchanged(x, () -> {
                Due.refused(x, "the first is FROM none, not even himself", Due.BAD, () -> x.born(0, 0, 0, 0));
            });
            Due.due("FROM NONE", x.born(0, 0, 0, -1), 0);
            Due.unchanged(x, () -> {
                Due.refused(x, "FROM himself", Due.BAD, () -> x.born(0, 0, 0, 1));
                Due.refused(x, "FROM less than NONE", Due.BAD, () -> x.born(0, 0, 0, -2));
            });
            Due.due("FROM the one just ahead", x.born(0, 0, 0, 0), 1);
            Due.due("FROM the one just ahead", x.born(0, 0, 0, 1), 2);
            Due.due("FROM", x.heirOf(0, 2), -1);
            Due.due("FROM", x.heirOf(2, 2), 1);
        });
        Due.edge("BORN (a YEAR)", () -> {
            CorkSaysWhen x = new CorkSaysWhen();
            Due.bounds(x, "born(0, 0, year, NONE)", 0, 999, year -> x.born(0, 0, year, -1));
            Due.due("the least", x.heirOf(0, 3), 0);
            Due.due("the most", x.heirOf(1, 3), 999);
        });
        Due.edge("HAS (drops; 0 at first), USED (drops; 0 at first), and how he is: 0 YOUNG (at first)", () -> {
            CorkSaysWhen x = new CorkSaysWhen();
            x.tell(1, 999);
            x.born(1, 9, 0, -1);
            Due.due("HAS", x.heirOf(0, 4), 0);
            Due.due("USED", x.heirOf(0, 5), 0);
            Due.due("how he is, be he as old as can be", x.heirOf(0, 6), 0);
        });
        Due.edge("1 OF AGE, 2 DEAD", () -> {
            CorkSaysWhen x = Due.of("heir 0 0 0; heir 0 0 49; year 70");
            x.years(1);
            Due.due("70", x.heirOf(0, 6), 2);
            Due.due("21", x.heirOf(1, 6), 1);
        });
        Due.edge("AGE of one: YEAR less BORN (it may be below 0)", () -> {
            CorkSaysWhen x = Due.of("heir 0 0 999; heir 0 0 0");
            Due.due("YEAR 0", x.heirOf(0, 7), -999);
            Due.due("YEAR 0", x.heirOf(1, 7), 0);
            x.tell(1, 998);
            Due.due("YEAR 998", x.heirOf(0, 7), -1);
            x.tell(1, 999);
            Due.due("YEAR 999", x.heirOf(0, 7), 0);
            Due.due("YEAR 999", x.heirOf(1, 7), 999);
        });
    }

    /** Asks of the first HEIR what he HAS, and of STORE, behind one YEAR in truth. */
    private static void behindOne(String text, int has, int store) {
        CorkSaysWhen x = Due.of(text);
        x.years(1);
        Due.due(text + ": he HAS", x.heirOf(0, 4), has);
        Due.due(text + ": STORE", x.status(1), store);
    }

    private static void comingOfAge() {
        Due.edge("of AGE 21 or more comes OF AGE", () -> {
            CorkSaysWhen x = Due.of("heir 2 0 0; year 20");
            x.years(1);
            Due.due("20", x.heirOf(0, 6), 0);
            Due.due("20: he gets nothing", x.heirOf(0, 4), 0);
            x.years(1);
            Due.due("21", x.heirOf(0, 6), 1);
            Due.due("21: he gets 60", x.heirOf(0, 4), 60);
            CorkSaysWhen older = Due.of("heir 2 0 0; heir 2 0 1; year 23");
            older.years(1);
            Due.due("23 and 22", older.who(1), 3);
        });
        Due.edge("each who is YOUNG", () -> {
            CorkSaysWhen x = Due.of("heir 2 0 0; year 21");
            x.years(3);
            Due.due("just once: STORE", x.status(1), 600);
            Due.due("just once: HAS", x.heirOf(0, 4), 60);
            CorkSaysWhen dead = Due.of("heir 2 0 0; year 70");
            dead.years(1);
            dead.tell(1, 21);
            dead.years(1);
            Due.due("who is DEAD doesn't come OF AGE", dead.heirOf(0, 6), 2);
            Due.due("who is DEAD gets nothing", dead.heirOf(0, 4), 0);
        });
        Due.edge("First, by numbers", () -> {
            CorkSaysWhen x = Due.of("heir 2 0 1; heir 2 0 0; year 22; store 100");
            x.years(1);
            Due.due("the first", x.heirOf(0, 4), 60);
            Due.due("the second, if older too", x.heirOf(1, 4), 40);
            CorkSaysWhen tenth = Due.of("heir 2 0 0; heir 2 0 0; year 21; rule 1; store 11");
            tenth.years(1);
            Due.due("a tenth of 11", tenth.heirOf(0, 4), 2);
            Due.due("a tenth of the 9 that are left", tenth.heirOf(1, 4), 1);
            CorkSaysWhen even = Due.of("heir 2 0 0; heir 2 0 0; year 21; rule 2; store 7");
            even.years(1);
            Due.due("half of 7", even.heirOf(0, 4), 3);
            Due.due("all of the 4 that are left", even.heirOf(1, 4), 4);
        });
        Due.edge("thimble 60 drops .. STORE at most", () -> {
            behindOne("heir 2 0 0; year 21; store 61", 60, 1);
            behindOne("heir 2 0 0; year 21; store 60", 60, 0);
            behindOne("heir 2 0 0; year 21; store 59", 59, 0);
            behindOne("heir 2 0 0; year 21; store 0", 0, 0);
        });
        Due.edge("tenth a tenth of STORE (upward)", () -> {
            behindOne("heir 2 0 0; year 21; rule 1; store 0", 0, 0);
            behindOne("heir 2 0 0; year 21; rule 1; store 1", 1, 0);
            behindOne("heir 2 0 0; year 21; rule 1; store 9", 1, 8);
            behindOne("heir 2 0 0; year 21; rule 1; store 10", 1, 9);
            behindOne("heir 2 0 0; year 21; rule 1; store 11", 2, 9);
        });
        Due.edge("even STORE by how many are YOUNG, he too (cut)", () -> {
            behindOne("heir 2 0 0; year 21; rule 2; store 7", 7, 0);
            behindOne("heir 2 0 0; heir 2 0 9; year 21; rule 2; store 7", 3, 4);
            behindOne("heir 2 0 0; heir 2 0 9; heir 2 0 9; year 21; rule 2; store 2", 0, 2);
            behindOne("heir 2 0 0; heir 2 0 0; year 21; rule 2; store 1", 0, 0);
            CorkSaysWhen x = Due.of("heir 2 0 0; heir 2 0 49; heir 2 0 50; year 70");
            x.years(1);
            Due.read(x, "rule 2; store 9");
            x.years(1);
            Due.due("DEAD and OF AGE are none of them", x.heirOf(2, 4), 9);
        });
        Due.edge("he gets .. STORE is so much less", () -> {
            behindOne("heir 2 0 0; year 21; has 0 5", 65, 600);
            behindOne("heir 2 0 0; year 21; has 0 5; store 3", 8, 0);
        });
    }

    /** What the first HEIR, being OF AGE already, USES in truth of n drops. */
    private static void useOf(int kind, int a, int year, int n, int want) {
        int born = Math.max(0, year - 40);
        CorkSaysWhen x = Due.of("heir " + kind + " " + a + " " + born + "; store 0; year " + (born + 21));
        x.years(1);
        Due.read(x, "year " + year + "; has 0 " + n);
        x.years(1);
        Due.due("a " + kind + " with a " + a + " in the YEAR " + year + " USES of " + n, x.heirOf(0, 5), want);
        Due.due("and HAS", x.heirOf(0, 4), n - want);
    }

    private static void usesOf(int kind, int a, int year, int[] drops, int[] want) {
        for (int i = 0; i < drops.length; i++) {
            useOf(kind, a, year, drops[i], want[i]);
        }
    }

    private static void using() {
        Due.edge("HEIR a tenth (upward)", () ->
            usesOf(0, 9, 22, new int[] {0, 1, 9, 10, 11, 20, 21, 999}, new int[] {0, 1, 1, 1, 2, 2, 3, 100}));
        Due.edge("SPENDER half (upward)", () ->
            usesOf(1, 9, 22, new int[] {0, 1, 2, 3, 4, 999}, new int[] {0, 1, 1, 2, 2, 500}));
        Due.edge("RIDER what a SPENDER does, and a more .. (What he HAS at most.)", () -> {
            usesOf(3, 9, 22, new int[] {0, 1, 17, 18, 19, 20, 21}, new int[] {0, 1, 17, 18, 19, 19, 20});
            usesOf(3, 0, 22, new int[] {0, 1, 2, 3}, new int[] {0, 1, 1, 2});
        });
        Due.edge("SAVER a .. (What he HAS at most.)", () -> {
            usesOf(2, 9, 22, new int[] {0, 8, 9, 10}, new int[] {0, 8, 9, 9});
            usesOf(2, 9, 23, new int[] {0, 8, 9, 10}, new int[] {0, 8, 9, 9});
            usesOf(2, 0, 22, new int[] {0, 1, 999}, new int[] {0, 0, 0});
        });
        Due.edge("MISER what a SAVER does, if YEAR is even, else nothing", () -> {
            usesOf(4, 9, 22, new int[] {0, 8, 9, 10}, new int[] {0, 8, 9, 9});
            usesOf(4, 9, 23, new int[] {0, 8, 9, 10}, new int[] {0, 0, 0, 0});
            useOf(4, 9, 0, 10, 9);
            useOf(4, 9, 1, 10, 0);
            useOf(4, 9, 998, 10, 9);
            useOf(4, 9, 999, 10, 0);
        });
        Due.edge("EXPERT what an HEIR does, and 1 more. (What he HAS at most.)", () ->
            usesOf(5, 9, 22, new int[] {0, 1, 2, 3, 10, 11, 12}, new int[] {0, 1, 2, 2, 2, 3, 3}));
        Due.edge("Then, by numbers, each who is OF AGE USES of what he HAS", () -> {
            CorkSaysWhen x = Due.of("heir 1 0 0; heir 1 0 50; year 70; has 1 10");
            x.years(1);
            Due.due("who has come OF AGE just now does", x.heirOf(0, 5), 30);
            Due.due("who is YOUNG doesn't", x.heirOf(1, 5), 0);
            Due.due("who is YOUNG keeps it", x.heirOf(1, 4), 10);
            Due.read(x, "has 0 10");
            x.years(1);
            Due.due("who is DEAD doesn't", x.heirOf(0, 5), 30);
            Due.due("who is DEAD keeps what he was told to have", x.heirOf(0, 4), 10);
            x.tell(1, 0);
            int ahead = x.heirOf(1, 5);
            x.years(1);
            Due.due("who is OF AGE does, be it a YEAR ahead of his birth", x.heirOf(1, 5) > ahead ? 1 : 0, 1);
            Due.due("and he stays OF AGE", x.heirOf(1, 6), 1);
        });
    }

    private static void dying() {
        Due.edge("of AGE 70 or more is DEAD", () -> {
            CorkSaysWhen x = Due.of("heir 2 0 0; year 69");
            x.years(1);
            Due.due("69", x.heirOf(0, 6), 1);
            x.years(1);
            Due.due("70", x.heirOf(0, 6), 2);
            CorkSaysWhen old = Due.of("heir 2 0 0; year 999");
            old.years(1);
            Due.due("999", old.heirOf(0, 6), 2);
            Due.due("he came OF AGE first, and what he got is left", old.status(1), 660);
        });
        Due.edge("what he HAS goes to those FROM him who aren't DEAD, as much to each (cut)", () -> {
            String three = "heir 2 0 0; child 2 0 60 0; child 2 0 60 0; child 2 0 60 0; child 2 0 60 1; year 70; store 0; has 0 ";
            int[] drops = {0, 2, 3, 5, 6, 100};
            for (int n : drops) {
                CorkSaysWhen x = Due.of(three + n);
                x.years(1);
                for (int child = 1; child <= 3; child++) {
                    Due.due(n + " drops: " + child + " HAS", x.heirOf(child, 4), n / 3);
                }
                Due.due(n + " drops: who is FROM one FROM him HAS", x.heirOf(4, 4), 0);
                Due.due(n + " drops: he HAS", x.heirOf(0, 4), 0);
                Due.due(n + " drops: STORE", x.status(1), n % 3);
            }
        });
        Due.edge("those FROM him who aren't DEAD", () -> {
            CorkSaysWhen x = Due.of("heir 2 0 60; child 2 0 0 0; child 2 0 60 0; year 70; store 0");
            x.years(1);
            Due.due("one of them is DEAD", x.heirOf(1, 6), 2);
            Due.read(x, "has 0 41; year 130");
            x.years(1);
            Due.due("the DEAD one gets nothing", x.heirOf(1, 4), 0);
            Due.due("the other, dying behind him, nothing cut", x.status(1), 41);
            CorkSaysWhen y = Due.of("heir 2 0 60; child 2 0 0 0; child 2 0 90 0; year 70; store 0");
            y.years(1);
            Due.read(y, "has 0 41; year 130");
            y.years(1);
            Due.due("the other has all", y.heirOf(2, 4), 41);
        });
        Due.edge("what is left, or all, if there is none, to STORE", () -> {
            behindOne("heir 2 0 0; year 70; store 0; has 0 7", 0, 7);
            CorkSaysWhen x = Due.of("heir 2 0 60; child 2 0 0 0; year 70; store 0");
            x.years(1);
            Due.read(x, "has 0 41; year 130");
            x.years(1);
            Due.due("all FROM him are DEAD", x.status(1), 41);
        });
        Due.edge("to STORE (9999 at most)", () -> {
            int[] has = {8, 9, 10, 999};
            int[] want = {9998, 9999, 9999, 9999};
            for (int i = 0; i < has.length; i++) {
                CorkSaysWhen x = Due.of("heir 2 0 0; year 70; has 0 " + has[i]);
                x.tell(0, 9990);
                Due.due("STORE 9990, and " + has[i], x.years(1), want[i]);
                Due.due("he HAS", x.heirOf(0, 4), 0);
            }
        });
        Due.edge("Then, by numbers, each who is OF AGE and of AGE 70 or more", () -> {
            CorkSaysWhen x = Due.of("heir 2 0 0; child 2 0 0 0; child 2 0 60 1; year 70; store 0; has 0 7");
            x.years(1);
            Due.due("what the first leaves goes on with the second", x.heirOf(2, 4), 7);
            CorkSaysWhen y = Due.of("heir 2 0 0; child 1 0 49 0; year 70; store 0; has 0 40");
            y.years(1);
            Due.due("what is left is not USED in that YEAR", y.heirOf(1, 4), 40);
        });
    }

    private static void theYear() {
        Due.edge("YEAR is 1 more (999 at most)", () -> {
            CorkSaysWhen x = Due.of("heir 1 0 979; year 998");
            x.years(1);
            Due.due("998 and 1", x.status(2), 999);
            x.years(1);
            Due.due("999 stays", x.status(2), 999);
            x.years(60);
            Due.due("999 stays", x.status(2), 999);
            Due.due("AGE 20 stays", x.heirOf(0, 6), 0);
            CorkSaysWhen y = Due.of("heir 2 1 950; year 999");
            y.years(60);
            Due.due("YEARS pass all the same", y.heirOf(0, 5), 60);
        });
    }

    private static void refusals() {
        Due.edge("REFUSALS (the call answers the number; nothing changes but how many there were)", () -> {
            CorkSaysWhen x = Due.of("heir 0 0 0; year 30");
            x.years(1);
            x.row(0, 3, 2);
            x.show(1, 0);
            Due.unchanged(x, () -> {
                Due.refused(x, "BAD", Due.BAD, () -> x.set(0, 2, 7));
                Due.refused(x, "OTHER", Due.OTHER, () -> x.set(1, 0, 7));
                Due.refused(x, "NOTHING", Due.NOTHING, () -> x.set(2, 0, 7));
                Due.refused(x, "STUCK", Due.STUCK, () -> x.gets(0));
            });
        });
        Due.edge("the first that fits as each line has them", () -> {
            CorkSaysWhen x = Due.of("heir 0 0 0");
            x.show(0, 0);
            Due.unchanged(x, () -> {
                Due.refused(x, "BAD s is ahead of all", Due.BAD, () -> x.copy(8, 0, 0, 0, 0));
                Due.refused(x, "OTHER is ahead of NOTHING", Due.OTHER, () -> x.copy(1, 0, 0, 0, 0));
                Due.refused(x, "NOTHING is ahead of BAD i", Due.NOTHING, () -> x.set(1, 40, 0));
                Due.refused(x, "BAD n is ahead of NOTHING", Due.BAD, () -> x.judge(1, 41));
            });
        });
        Due.edge("-1002 BAD a number that may not be, nothing of that number", () -> {
            CorkSaysWhen x = new CorkSaysWhen();
            Due.unchanged(x, () -> {
                Due.refused(x, "a number that may not be", Due.BAD, () -> x.tell(0, 10000));
                Due.refused(x, "nothing of that number", Due.BAD, () -> x.line(0));
            });
            Due.due("counted", x.status(12), 2);
        });
        Due.edge("-1003 OTHER: a SHELF that holds another thing than is wanted", () -> {
            CorkSaysWhen x = Due.of("heir 0 0 0");
            x.show(0, 0);
            x.row(1, 0, 0);
            Due.unchanged(x, () -> {
                Due.refused(x, "an HEIR for a ROW", Due.OTHER, () -> x.judge(0, 0));
                Due.refused(x, "a ROW for an HEIR", Due.OTHER, () -> x.says(1, 0));
            });
            Due.due("counted", x.status(13), 2);
        });
        Due.edge("-1004 NOTHING: a SHELF that holds NOTHING", () -> {
            CorkSaysWhen x = new CorkSaysWhen();
            Due.unchanged(x, () -> {
                Due.refused(x, "for a ROW", Due.NOTHING, () -> x.judge(7, 0));
                Due.refused(x, "for an HEIR", Due.NOTHING, () -> x.says(7, 0));
            });
            Due.due("counted", x.status(14), 2);
        });
        Due.edge("-1005 STUCK: it can't be as things stand", () -> {
            CorkSaysWhen x = new CorkSaysWhen();
            Due.unchanged(x, () -> {
                Due.refused(x, "no HEIRS", Due.STUCK, () -> x.spared());
                Due.refused(x, "nothing was kept", Due.STUCK, () -> x.back());
            });
            Due.due("counted", x.status(15), 2);
        });
        Due.edge("-1006 FULL", () -> {
            CorkSaysWhen x = new CorkSaysWhen();
            for (int i = 0; i < 10; i++) {
                x.born(0, 0, 0, -1);
            }
            for (int i = 0; i < 250; i++) {
                x.feed(32);
            }
            Due.unchanged(x, () -> {
                Due.refused(x, "HEIRS", Due.FULL, () -> x.born(0, 0, 0, -1));
                Due.refused(x, "THE TAPE", Due.FULL, () -> x.feed(32));
            });
            Due.due("counted", x.status(16), 2);
        });
    }
}
