/** Promises 9 to 13: tell, joy, feed, wipe, store. */
public final class TellingTest {
    public static void main(String[] args) {
        promise9Tell();
        promise10Joy();
        promise11Feed();
        promise12Wipe();
        promise13StoreReads();
        promise13StoreComesToWhatThereIs();
        promise13StoreFaults();
        promise13StoreFaultsForRoom();
        promise13StoreLeavesAllOrNothing();
        Due.end("TellingTest");
    }

    private static void promise9Tell() {
        CorkSaysWhen x = new CorkSaysWhen();
        int[] first = {660, 0, 0};
        int[] most = {9999, 999, 2};
        for (int w = 0; w < 3; w++) {
            int what = w;
            Due.due("tell(" + w + ", most)", x.tell(w, most[w]), first[w]);
            Due.due("status(" + (w + 1) + ")", x.status(w + 1), most[w]);
            Due.due("tell(" + w + ", 0)", x.tell(w, 0), most[w]);
            Due.due("tell(" + w + ", 1)", x.tell(w, 1), 0);
            Due.unchanged(x, () -> {
                Due.refused(x, "tell(" + what + ", most + 1)", Due.BAD, () -> x.tell(what, most[what] + 1));
                Due.refused(x, "tell(" + what + ", -1)", Due.BAD, () -> x.tell(what, -1));
                Due.refused(x, "tell(" + what + ", min)", Due.BAD, () -> x.tell(what, Integer.MIN_VALUE));
            });
        }
        Due.unchanged(x, () -> {
            Due.refused(x, "tell(3, 0)", Due.BAD, () -> x.tell(3, 0));
            Due.refused(x, "tell(-1, 0)", Due.BAD, () -> x.tell(-1, 0));
        });
    }

    private static void promise10Joy() {
        CorkSaysWhen x = new CorkSaysWhen();
        Due.due("joy(0, 9)", x.joy(0, 9), 1);
        Due.due("joy(0, 0)", x.joy(0, 0), 9);
        Due.due("joy(7, 4)", x.joy(7, 4), 8);
        Due.due("joyOf(0)", x.joyOf(0), 0);
        Due.due("joyOf(7)", x.joyOf(7), 4);
        Due.due("joyOf(6)", x.joyOf(6), 7);
        Due.unchanged(x, () -> {
            Due.refused(x, "joy(-1, 0)", Due.BAD, () -> x.joy(-1, 0));
            Due.refused(x, "joy(8, 0)", Due.BAD, () -> x.joy(8, 0));
            Due.refused(x, "joy(0, -1)", Due.BAD, () -> x.joy(0, -1));
            Due.refused(x, "joy(0, 10)", Due.BAD, () -> x.joy(0, 10));
        });
    }

    private static void promise11Feed() {
        CorkSaysWhen x = new CorkSaysWhen();
        for (int i = 0; i < 250; i++) {
            Due.due("feed for " + (i + 1), x.feed(i == 0 ? 0 : i == 1 ? 255 : 32), i + 1);
        }
        Due.unchanged(x, () -> {
            Due.refused(x, "feed(32) for 251", Due.FULL, () -> x.feed(32));
            Due.refused(x, "feed(-1): BAD is ahead of FULL", Due.BAD, () -> x.feed(-1));
            Due.refused(x, "feed(256): BAD is ahead of FULL", Due.BAD, () -> x.feed(256));
        });
        Due.due("status(7)", x.status(7), 250);
        x.wipe();
        Due.unchanged(x, () -> {
            Due.refused(x, "feed(256)", Due.BAD, () -> x.feed(256));
        });
        Due.due("feed(32) behind wipe", x.feed(32), 1);
    }

    private static void promise12Wipe() {
        CorkSaysWhen x = new CorkSaysWhen();
        Due.feed(x, "store 5");
        Due.due("wipe()", x.wipe(), 7);
        Due.due("wipe() again", x.wipe(), 0);
        Due.due("store() behind wipe", x.store(), -2000);
        Due.feed(x, "rule");
        x.wipe();
        Due.due("what was wiped isn't read", Due.read(x, "year 7"), 1);
        Due.due("status(2)", x.status(2), 7);
    }

    private static void promise13StoreReads() {
        CorkSaysWhen x = new CorkSaysWhen();
        Due.due("nine STATEMENTS", Due.read(x, "heir 5 9 999;child 3 8 0 0;has 1 999;store 999;year 999;rule 2;joy 7 9;joy 0 0;has 0 0"), 9);
        int[][] want = {{5, 9, -1, 999, 0, 0, 0, 0}, {3, 8, 0, 0, 999, 0, 0, 999}};
        for (int heir = 0; heir < 2; heir++) {
            for (int what = 0; what < 8; what++) {
                Due.due("heirOf(" + heir + ", " + what + ")", x.heirOf(heir, what), want[heir][what]);
            }
        }
        Due.due("STORE", x.status(1), 999);
        Due.due("YEAR", x.status(2), 999);
        Due.due("RULE", x.status(3), 2);
        Due.due("joyOf(7)", x.joyOf(7), 9);
        Due.due("joyOf(0)", x.joyOf(0), 0);
        Due.due("THE TAPE is empty then", x.status(7), 0);
        Due.due("blanks", Due.read(x, "  store   007 ;  year 8  "), 2);
        Due.due("STORE", x.status(1), 7);
        Due.due("no blanks", Due.read(x, "heir0 0 0;rule1;store000"), 3);
        Due.due("STORE", x.status(1), 0);
        Due.due("RULE", x.status(3), 1);
        Due.due("no refusals", x.status(12), 0);
    }

    private static void promise13StoreComesToWhatThereIs() {
        CorkSaysWhen x = Due.of("heir 1 2 3");
        x.tell(0, 5000);
        Due.due("to what there is", Due.read(x, "child 2 3 4 0; heir 0 0 0; child 0 0 5 2; has 0 9; has 0 8"), 5);
        Due.due("HEIRS", x.status(0), 4);
        Due.due("FROM", x.heirOf(1, 2), 0);
        Due.due("FROM", x.heirOf(3, 2), 2);
        Due.due("HAS becomes what is told last", x.heirOf(0, 4), 8);
        Due.due("STORE stays", x.status(1), 5000);
        StringBuilder text = new StringBuilder("rule 1");
        while (text.length() < 250) {
            text.append(text.length() <= 250 - 7 ? ";rule 1" : " ");
        }
        Due.due("250 bytes", Due.read(x, text.toString()), 35);
    }

    private static void fault(String text, int place) {
        CorkSaysWhen x = Due.of("heir 0 0 0; heir 0 0 0; has 0 5; has 1 6; year 3");
        x.row(3, 2, 4);
        String ahead = Due.all(x);
        int bad = x.status(12);
        Due.due("the FAULT of '" + text + "'", Due.read(x, text), -2000 - place);
        Due.same("the FAULT of '" + text + "'", Due.all(x), ahead);
        Due.due("it is refused", x.status(12), bad + 1);
        Due.due("and not as another", x.status(13) + x.status(14) + x.status(15) + x.status(16), 0);
    }

    private static void promise13StoreFaults() {
        fault("", 0);
        fault("   ", 3);
        fault("store", 5);
        fault("store ", 6);
        fault("store 5;", 8);
        fault("store 5; ", 9);
        fault("store 5 ;; store 6", 9);
        fault(";store 5", 0);
        fault("heirs 0 0 0", 0);
        fault("hei 0 0 0", 0);
        fault("heiq 0 0 0", 0);
        fault("heir 0 0 0; chile 0 0 0 0", 12);
        fault("heir 0 0 0; hat 0 5", 12);
        fault("stora 5", 0);
        fault("yeas 5", 0);
        fault("rula 1", 0);
        fault("jox 0 5", 0);
        fault("Heir 0 0 0", 0);
        fault("weir 0 0 0", 0);
        fault("storez 5", 0);
        fault("storea 5", 0);
        fault("5 store", 0);
        fault("store store", 6);
        fault("store ;", 6);
        fault("store 5 6", 8);
        fault("store 5 year 6", 8);
        fault("store 5#", 7);
        fault("store #", 6);
        fault("#", 0);
        fault("store\t5", 5);
        fault("store 0005", 6);
        fault("store 5; year 6; rule 3", 22);
        fault("store 5x", 7);
        fault("storex 5", 0);
        fault("store 5 0000", 8);
        fault("heir 6 0 0", 5);
        fault("heir 0 10 0", 7);
        fault("heir 0 0 1000", 9);
        fault("heir 0 0", 8);
        fault("heir 0 0 0 0", 11);
        fault("child 0 0 0", 11);
        fault("child 0 0 0 2", 12);
        fault("heir 0 0 0; child 0 0 0 3", 24);
        fault("child 6 0 0 0", 6);
        fault("child 0 10 0 0", 8);
        fault("has 2 0", 4);
        fault("has 0 1000", 6);
        fault("year 1000", 5);
        fault("rule 9", 5);
        fault("joy 8 0", 4);
        fault("joy 0 10", 6);
        fault("joy 0", 5);
        fault("\u0000", 0);
        fault("store 5\u00e9", 7);
        fault("store -5", 6);
    }

    private static void promise13StoreFaultsForRoom() {
        CorkSaysWhen x = new CorkSaysWhen();
        String text = "heir 0 0 0;heir 0 0 0;heir 0 0 0;heir 0 0 0;heir 0 0 0;heir 0 0 0;heir 0 0 0;heir 0 0 0;heir 0 0 0";
        Due.due("nine", Due.read(x, text), 9);
        Due.due("two more, the second one too many", Due.read(x, "heir 0 0 0; heir 0 0 0"), -2012);
        Due.due("HEIRS", x.status(0), 9);
        Due.due("the tenth", Due.read(x, "child 0 0 0 8"), 1);
        Due.due("HEIRS", x.status(0), 10);
        Due.due("heir, no room", Due.read(x, "store 1; heir"), -2009);
        Due.due("child, no room", Due.read(x, " child 9 9 9 9"), -2001);
        Due.due("has 9", Due.read(x, "has 9 1"), 1);
        Due.due("has 10", Due.read(x, "has 10 1"), -2004);
    }

    private static void promise13StoreLeavesAllOrNothing() {
        CorkSaysWhen x = new CorkSaysWhen();
        String ahead = Due.all(x);
        Due.due("FAULT at the end", Due.read(x, "heir 1 1 1; has 0 9; store 1; year 2; rule 1; joy 1 1; x"), -2055);
        Due.same("FAULT at the end", Due.all(x), ahead);
        Due.due("THE TAPE is empty", x.status(7), 0);
    }
}
