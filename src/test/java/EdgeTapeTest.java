/** The boundary cases that the terms name of THE TAPE, and promises 11 to 13: a test for each sentence. */
public final class EdgeTapeTest {
    private static final String TWO_HEIRS = "heir 0 0 0; heir 0 0 0; has 0 5; has 1 6; year 3";

    public static void main(String[] args) {
        feedAndWipe();
        size();
        tokens();
        blanks();
        statements();
        bounds();
        numbersOfHeirs();
        allOrNothing();
        firstThatCantStand();
        numbersThatMayNotBe();
        noRoom();
        tooEarly();
        store();
        Due.end("EdgeTapeTest");
    }

    /** THE TAPE is refused as BAD with its FAULT at the place; nothing else has changed, and it is empty. */
    private static void fault(String text, int place) {
        CorkSaysWhen x = Due.of(TWO_HEIRS);
        String ahead = Due.all(x);
        Due.due("the FAULT of '" + text + "'", Due.read(x, text), -2000 - place);
        Due.same("the FAULT of '" + text + "'", Due.all(x), ahead);
        int[] refused = {1, 0, 0, 0, 0};
        for (int i = 0; i < 5; i++) {
            Due.due("the FAULT of '" + text + "', then status(" + (12 + i) + ")", x.status(12 + i), refused[i]);
        }
    }

    /** THE TAPE is read, so many STATEMENTS; status(what), joyOf(7) or what heir 1 HAS is as told then. */
    private static CorkSaysWhen reads(String text, int statements) {
        CorkSaysWhen x = Due.of(TWO_HEIRS);
        Due.due("the STATEMENTS of '" + text + "'", Due.read(x, text), statements);
        Due.due("'" + text + "' isn't refused", x.status(12), 0);
        return x;
    }

    private static void feedAndWipe() {
        Due.edge("Promise 1: THE TAPE is empty", () -> {
            CorkSaysWhen x = new CorkSaysWhen();
            Due.due("its size", x.status(7), 0);
            Due.due("wipe()", x.wipe(), 0);
            Due.due("feed(32)", x.feed(32), 1);
        });
        Due.edge("Promise 11: one byte (0 to 255)", () -> {
            CorkSaysWhen x = new CorkSaysWhen();
            Due.bounds(x, "feed(letter)", 0, 255, letter -> x.feed(letter));
            Due.due("two were taken", x.status(7), 2);
        });
        Due.edge("Promise 11: behind it: its size", () -> {
            CorkSaysWhen x = new CorkSaysWhen();
            for (int i = 1; i <= 250; i++) {
                Due.due("its size", x.feed(32), i);
            }
        });
        Due.edge("Promise 11: BAD; FULL", () -> {
            CorkSaysWhen x = new CorkSaysWhen();
            Due.feed(x, " ".repeat(249));
            Due.due("the last that there is room for", x.feed(32), 250);
            Due.unchanged(x, () -> {
                Due.refused(x, "feed(32)", Due.FULL, () -> x.feed(32));
                Due.refused(x, "feed(256)", Due.BAD, () -> x.feed(256));
                Due.refused(x, "feed(-1)", Due.BAD, () -> x.feed(-1));
            });
        });
        Due.edge("Promise 12: THE TAPE is empty: its size ahead", () -> {
            CorkSaysWhen x = new CorkSaysWhen();
            Due.due("empty", x.wipe(), 0);
            x.feed(0);
            Due.due("of one", x.wipe(), 1);
            Due.due("it is empty then", x.status(7), 0);
            Due.feed(x, " ".repeat(250));
            Due.due("full", x.wipe(), 250);
            Due.due("there is room again", x.feed(32), 1);
            Due.due("what was wiped is not read", Due.read(x, "year 5"), 1);
        });
    }

    private static void size() {
        Due.edge("THE TAPE (bytes, 250 at most)", () -> {
            String text = "joy 7 0" + " ".repeat(250 - 15) + ";joy 7 9";
            Due.due("how many bytes", text.length(), 250);
            Due.due("the last byte is read", reads(text, 2).joyOf(7), 9);
            fault(text.substring(0, 249) + "x", 249);
            fault(text.substring(1) + ";", 0);
            fault(" ".repeat(242) + "joy 7 9;", 250);
            CorkSaysWhen x = new CorkSaysWhen();
            Due.feed(x, " ".repeat(243) + "year 12" + "34");
            Due.due("the 251st byte is none of it", x.store(), 1);
            Due.due("the 251st byte is none of it", x.status(2), 12);
        });
    }

    private static void tokens() {
        Due.edge("TOKENS, each as long as can be", () -> {
            fault("storestore 5", 0);
            fault("storerule 1", 0);
            fault("hasx 0 5", 0);
            fault("year 5555", 5);
            fault("heir 000", 8);
            fault("joy 70", 4);
            Due.due("a NUMBER ends where a WORD's letter stands", reads("year5;rule2", 2).status(3), 2);
            fault("year 5rule 2", 6);
        });
        Due.edge("WORDS (a .. z)", () -> {
            fault("storea 5", 0);
            fault("storez 5", 0);
            fault("a", 0);
            fault("z", 0);
            fault("store`5", 5);
            fault("store{5", 5);
            fault("storeA5", 5);
            fault("storeZ5", 5);
            fault("STORE 5", 0);
            fault("Store 5", 0);
        });
        Due.edge("NUMBERS (digits)", () -> {
            Due.due("0", reads("year 0", 1).status(2), 0);
            Due.due("9", reads("year 9", 1).status(2), 9);
            Due.due("90", reads("year 90", 1).status(2), 90);
            Due.due("09", reads("year 09", 1).status(2), 9);
            fault("year 9/", 6);
            fault("year 9:", 6);
            fault("year /", 5);
            fault("year :", 5);
            fault("year -1", 5);
            fault("year +1", 5);
            fault("year 1.5", 6);
        });
        Due.edge("the SIGN ;", () -> {
            Due.due("with nothing around", reads("year 5;year 6", 2).status(2), 6);
            fault("year 5,year 6", 6);
            fault("year 5:year 6", 6);
            fault("year 5<year 6", 6);
            fault("year 5;;year 6", 7);
        });
    }

    private static void blanks() {
        Due.edge("blanks (32) may stand anywhere between", () -> {
            CorkSaysWhen x = reads("child    0  7 5   1   ;  year     8", 2);
            Due.due("YEAR", x.status(2), 8);
            Due.due("FROM", x.heirOf(2, 2), 1);
            Due.due("none at all but between NUMBERS", reads("joy7 9;year8;rule2", 3).joyOf(7), 9);
            fault("joy79", 3);
            fault("sto re 5", 0);
            fault("year 5 5", 7);
            fault("year\t5", 4);
            fault("year\n5", 4);
            fault("year\u001f5", 4);
            fault("year!5", 4);
            fault("year\u00a05", 4);
        });
    }

    private static void statements() {
        Due.edge("STATEMENTS, one or more", () -> {
            fault("", 0);
            Due.due("one", reads("year 5", 1).status(2), 5);
            Due.due("two", reads("year 5; year 7", 2).status(2), 7);
            Due.due("the most that there is room for", reads("rule 1" + ";rule 2".repeat(34), 35).status(3), 2);
        });
        Due.edge("with ; between", () -> {
            fault("year 5;", 7);
            fault(";year 5", 0);
            fault(";", 0);
            fault("year 5 year 6", 7);
            fault("year 5; ;year 6", 8);
        });
    }

    /** Every NUMBER from least to most may stand in the place of #, and most + 1 may not. */
    private static void upTo(String text, int most) {
        int place = text.indexOf('#');
        Due.due(text + " with 0", Due.read(Due.of(TWO_HEIRS), text.replace("#", "0")), 1);
        Due.due(text + " with " + most, Due.read(Due.of(TWO_HEIRS), text.replace("#", "" + most)), 1);
        Due.due(text + " with 00" + most, Due.read(Due.of(TWO_HEIRS), text.replace("#", most > 9 ? "" + most : "00" + most)), 1);
        fault(text.replace("#", "" + (most + 1)), place);
        fault(text.replace("#", "0000"), place);
        fault(text.replace("#", "x"), place);
        fault(text.replace("#", ";"), place);
    }

    private static void bounds() {
        Due.edge("heir K A B (FROM NONE)", () -> {
            upTo("heir # 0 0", 5);
            upTo("heir 0 # 0", 9);
            upTo("heir 0 0 #", 999);
            CorkSaysWhen x = reads("heir 5 9 999", 1);
            int[] want = {5, 9, -1, 999, 0, 0, 0, 3 - 999};
            for (int what = 0; what < 8; what++) {
                Due.due("heirOf(2, " + what + ")", x.heirOf(2, what), want[what]);
            }
            fault("heir 0 0 0 0", 11);
        });
        Due.edge("child K A B F (FROM F)", () -> {
            upTo("child # 0 0 0", 5);
            upTo("child 0 # 0 0", 9);
            upTo("child 0 0 # 0", 999);
            upTo("child 0 0 0 #", 1);
            CorkSaysWhen x = reads("child 5 9 999 1", 1);
            int[] want = {5, 9, 1, 999, 0, 0, 0, 3 - 999};
            for (int what = 0; what < 8; what++) {
                Due.due("heirOf(2, " + what + ")", x.heirOf(2, what), want[what]);
            }
            fault("child 0 0 0 0 0", 14);
        });
        Due.edge("has X N (drops, 999 at most)", () -> {
            upTo("has # 0", 1);
            upTo("has 0 #", 999);
            Due.due("the most", reads("has 1 999", 1).heirOf(1, 4), 999);
            Due.due("the least", reads("has 1 0", 1).heirOf(1, 4), 0);
            fault("has 0 0 0", 8);
        });
        Due.edge("store N; year N (999 at most both)", () -> {
            upTo("store #", 999);
            upTo("year #", 999);
            Due.due("the most", reads("store 999", 1).status(1), 999);
            Due.due("the least", reads("store 0", 1).status(1), 0);
            Due.due("the most", reads("year 999", 1).status(2), 999);
            Due.due("the least", reads("year 0", 1).status(2), 0);
            fault("store 0 0", 8);
            fault("year 0 0", 7);
        });
        Due.edge("rule N", () -> {
            upTo("rule #", 2);
            Due.due("the most", reads("rule 2", 1).status(3), 2);
            Due.due("the least", reads("rule 2; rule 0", 2).status(3), 0);
            fault("rule 0 0", 7);
        });
        Due.edge("joy T N", () -> {
            upTo("joy # 0", 7);
            upTo("joy 0 #", 9);
            CorkSaysWhen x = reads("joy 7 9; joy 0 0", 2);
            Due.due("the last THING, the most", x.joyOf(7), 9);
            Due.due("the first THING, the least", x.joyOf(0), 0);
            fault("joy 0 0 0", 8);
        });
    }

    private static void numbersOfHeirs() {
        Due.edge("FROM (the number of an HEIR ahead of him), on THE TAPE", () -> {
            CorkSaysWhen x = new CorkSaysWhen();
            Due.due("there is none yet", Due.read(x, "child 0 0 0 0"), -2012);
            Due.due("himself isn't", Due.read(x, "heir 0 0 0;child 0 0 0 1"), -2023);
            Due.due("HEIRS", x.status(0), 0);
            Due.due("one on the same TAPE", Due.read(x, "heir 0 0 0;child 0 0 0 0;child 0 0 0 1"), 3);
            Due.due("FROM", x.heirOf(2, 2), 1);
            Due.due("one there was ahead of it", Due.read(x, "child 0 0 0 2"), 1);
            Due.due("FROM", x.heirOf(3, 2), 2);
        });
        Due.edge("has X N of one on the same TAPE", () -> {
            CorkSaysWhen x = new CorkSaysWhen();
            Due.due("he isn't there yet", Due.read(x, "has 0 1;heir 0 0 0"), -2004);
            Due.due("he is", Due.read(x, "heir 0 0 0;has 0 1"), 2);
            Due.due("HAS", x.heirOf(0, 4), 1);
        });
    }

    private static void allOrNothing() {
        Due.edge("All comes to what there is, or nothing", () -> {
            String all = "heir 5 9 7;child 4 8 6 2;has 0 99;has 3 1;store 1;year 2;rule 1;joy 0 9;joy 7 0";
            CorkSaysWhen x = reads(all, 9);
            Due.due("HEIRS there were stay", x.heirOf(1, 4), 6);
            Due.due("others come", x.status(0), 4);
            Due.due("has", x.heirOf(0, 4), 99);
            Due.due("has", x.heirOf(3, 4), 1);
            Due.due("store", x.status(1), 1);
            Due.due("year", x.status(2), 2);
            Due.due("rule", x.status(3), 1);
            Due.due("joy", x.joyOf(0), 9);
            Due.due("JOY of others stays", x.joyOf(6), 7);
            fault(all + ";", all.length() + 1);
            fault(all + ";joy 8 0", all.length() + 5);
            fault(all + "#", all.length());
        });
        Due.edge("nothing: what a TAPE with a FAULT told of HEIRS is gone", () -> {
            CorkSaysWhen x = new CorkSaysWhen();
            Due.due("a FAULT", Due.read(x, "heir 5 9 7;has 0 99;rule 3"), -2025);
            x.born(1, 2, 3, -1);
            int[] want = {1, 2, -1, 3, 0, 0, 0, -3};
            for (int what = 0; what < 8; what++) {
                Due.due("heirOf(0, " + what + ")", x.heirOf(0, what), want[what]);
            }
        });
    }

    private static void firstThatCantStand() {
        Due.edge("The FAULT: the place of the first byte of the first TOKEN that can't stand there", () -> {
            fault("   yeer   5", 3);
            fault("year   year", 7);
            fault("year 5   year", 9);
            fault("year   ;", 7);
            fault("5", 0);
            fault("year 5;   5", 10);
            fault("rule 7; rule 8", 5);
            fault("heir 6 10 0", 5);
            fault("heir 0 10 x", 7);
            fault("yea 5", 0);
            fault("years 5", 0);
            fault("ear 5", 0);
        });
        Due.edge("a WORD that begins no STATEMENT", () -> {
            String[] statements = {"heir 0 0 0", "child 0 0 0 0", "has 0 0", "store 0", "year 0", "rule 0", "joy 0 0"};
            for (String statement : statements) {
                reads(statement, 1);
                int end = statement.indexOf(' ');
                for (int i = 0; i < end; i++) {
                    fault(statement.substring(0, i) + 'q' + statement.substring(i + 1), 0);
                }
                fault(statement.substring(1), 0);
                fault(statement.substring(0, end - 1) + statement.substring(end), 0);
                fault(statement.substring(0, end) + 's' + statement.substring(end), 0);
            }
        });
        Due.edge("a byte that begins none", () -> {
            fault("#", 0);
            fault("  #", 2);
            fault("year #", 5);
            fault("year#5", 4);
            fault("year 5#", 6);
            fault("year 5 #", 7);
            fault("year 5;#", 7);
            fault("\u0000", 0);
            fault("\u00ff", 0);
            fault("year 5\u0000", 6);
        });
    }

    private static void numbersThatMayNotBe() {
        Due.edge("also a NUMBER that may not be", () -> {
            fault("rule 3", 5);
            fault("year 6; rule  3", 14);
            fault("joy 8 10", 4);
            fault("has 2 0", 4);
        });
        Due.edge("or has more than 3 digits", () -> {
            Due.due("three", reads("year 005", 1).status(2), 5);
            Due.due("three", reads("heir 005 009 000", 1).heirOf(2, 1), 9);
            fault("year 0005", 5);
            fault("year 1000", 5);
            fault("year 4294967296", 5);
            fault("heir 0000 0 0", 5);
        });
    }

    private static void noRoom() {
        Due.edge("what there is no room for: its word", () -> {
            CorkSaysWhen x = Due.of("heir 0 0 0" + ";heir 0 0 0".repeat(8));
            Due.due("nine", x.status(0), 9);
            Due.due("the tenth has room, the eleventh not", Due.read(x, "heir 0 0 0; heir 0 0 0"), -2012);
            Due.due("nothing has come", x.status(0), 9);
            Due.due("a child neither", Due.read(x, "heir 0 0 0;  child 0 0 0 0"), -2013);
            Due.due("the tenth has room", Due.read(x, "child 0 0 0 8"), 1);
            Due.due("ten", x.status(0), 10);
            Due.due("heir", Due.read(x, "year 1;heir 0 0 0"), -2007);
            Due.due("child", Due.read(x, "year 1;child 0 0 0 0"), -2007);
            Due.due("the word is ahead of what is wrong behind it", Due.read(x, "heir 9 9 9"), -2000);
            Due.due("the word is ahead of the end", Due.read(x, "child"), -2000);
            Due.due("all others have room", Due.read(x, "has 9 1;store 1;year 1;rule 1;joy 1 1"), 5);
        });
    }

    private static void tooEarly() {
        Due.edge("THE TAPE's size, if it ends too early", () -> {
            fault("", 0);
            fault(" ", 1);
            fault("year", 4);
            fault("year  ", 6);
            fault("year 5;", 7);
            fault("year 5;  ", 9);
            fault("heir 0 0", 8);
            fault("heir 0 0 ", 9);
            fault("child 0 0 0", 11);
            fault("has 0", 5);
            fault("joy 0", 5);
            fault("store", 5);
            fault("rule", 4);
            fault(" ".repeat(250), 250);
            fault(" ".repeat(246) + "year", 250);
        });
    }

    private static void store() {
        Due.edge("Promise 13: how many STATEMENTS; -2000 less the FAULT (that is refused, too: BAD)", () -> {
            CorkSaysWhen x = new CorkSaysWhen();
            Due.due("one", Due.read(x, "year 5"), 1);
            Due.due("nothing is refused", x.status(12), 0);
            Due.due("a FAULT at 0", Due.read(x, ";"), -2000);
            Due.due("one is refused", x.status(12), 1);
            Due.due("a FAULT at 6", Due.read(x, "year 5#"), -2006);
            Due.due("two are refused", x.status(12), 2);
            Due.due("an empty TAPE", x.store(), -2000);
            Due.due("three are refused", x.status(12), 3);
        });
        Due.edge("Promise 13: THE TAPE is empty then, either way", () -> {
            CorkSaysWhen x = new CorkSaysWhen();
            Due.read(x, "year 5");
            Due.due("it was read", x.status(7), 0);
            Due.read(x, "year 5#");
            Due.due("it had a FAULT", x.status(7), 0);
            Due.due("nothing of it is read again", Due.read(x, "year 6"), 1);
            Due.feed(x, " ".repeat(250));
            x.store();
            Due.due("there is room again", x.feed(32), 1);
        });
    }
}
