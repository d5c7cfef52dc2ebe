/** Promises 1 to 13, and the opening: each sentence that names a boundary case. */
public final class Promise1To13Test extends TextCase {
    private static final int SAVINGS = 0;
    private static final int BOX = 4;
    private static final int MOST = 100_000_000;
    private static final int[] FAR = {Integer.MIN_VALUE, Integer.MAX_VALUE};

    public static void main(String[] args) {
        callsOfAnObject();
        newObject();
        objectsAreApart();
        feedHighestFirst();
        feedUpToSixHundred();
        feedBeyondSixHundred();
        textFirstBytes();
        textBytesOfTheTape();
        textTellsAllAnew();
        textsOneBehindAnother();
        textWithAFault();
        faultOfTheLatestText();
        faultsPlaces();
        openNumbers();
        openLands();
        openKinds();
        openCents();
        openTwelve();
        contactSince();
        depositCents();
        depositUpToTheMost();
        drawCents();
        drawAll();
        addressOfEachState();
        addressLands();
        closePaysOut();
        monthsOneTo120();
        monthsUpTo6000();
        monthsHandedOver();
        claimInAll();
        claimRefused();
        passLand();
        passRefused();
        notAwakeOrWritten();
        noSuchAccount();
        Bank.end("Promise1To13Test");
    }

    private static void callsOfAnObject() {
        Bank.sentence("What it is: an object is used for at most 512 calls: the first, the last, all alike");
        Bank refused = new Bank();
        for (int i = 1; i < 512; i++) {
            int what = i;
            Bank.same("call " + i, Bank.kindOfRefusal(() -> refused.it.told(9 + what)), Bank.ARGUMENT);
        }
        Bank.same("the 512th call", refused.it.status(1), 511);
        Bank acts = new Bank();
        for (int i = 1; i < 512; i++) {
            Bank.same("call " + i, acts.it.months(i % 11 + 1), 0);
        }
        Bank.same("the 512th call", acts.it.undo(), 7);
        Bank texts = new Bank();
        for (int i = 0; i < 255; i++) {
            Bank.same("feed", texts.it.feed(0x6c616e64, 0x20612030, 0x20302030, 0x20313b00, 0), 20);
            Bank.same("text", texts.it.text(i % 2 == 0 ? 15 : 16), i % 2 == 0 ? 1 : CANNOT_STAND - 10);
        }
        Bank.same("call 511", texts.it.told(0), 1);
        Bank.same("the 512th call", texts.it.fault(), Bank.NONE);
        Bank back = new Bank();
        for (int i = 0; i < 256; i++) {
            Bank.same("month", back.it.months(120), 0);
            Bank.same("undo", back.it.undo(), 0);
        }
    }

    private static void newObject() {
        Bank.sentence("Promise 1: no LANDS, no ACCOUNTS");
        Bank bank = new Bank();
        int[] told = {0, 0, 0, 3, 0, Bank.NONE, 0, 0, 0, 0};
        for (int what = 0; what < told.length; what++) {
            Bank.same("told(" + what + ")", bank.it.told(what), told[what]);
        }
        for (int i = 0; i < 7; i++) {
            Bank.same("books(" + i + ")", bank.it.books(i), 0);
            Bank.same("status(" + i + ")", bank.it.status(i), i < 3 ? 0 : Bank.NONE);
            if (i < 5) {
                Bank.same("pays(" + i + ")", bank.it.pays(i), 0);
            }
        }
        Bank.same("fault()", bank.it.fault(), Bank.NONE);
        Bank.same("print()", bank.it.print(), 0);
        Bank.same("undo()", bank.it.undo(), Bank.NONE);
        Bank.same("ahead(NONE)", bank.it.ahead(Bank.NONE, 1), 0);
        Bank.same("letters", bank.it.letters(1), 0);
        Bank.same("rescue", bank.it.rescue(1, 1, 0) + bank.it.rescue(1, 1, 1), 0);
        bank.refuses("land 0", Bank.NO_SUCH, () -> bank.it.land(0, 0));
        bank.refuses("account 0", Bank.NO_SUCH, () -> bank.it.account(0, 0));
        bank.refuses("row 0", Bank.NO_SUCH, () -> bank.it.row(0, 0));
        bank.refuses("letter 0", Bank.NO_SUCH, () -> bank.it.letter(0, 0));
        bank.refuses("purse 0", Bank.NO_SUCH, () -> bank.it.purse(0, 0));
        bank.refuses("ahead of land 0", Bank.NO_SUCH, () -> bank.it.ahead(0, 1));
        bank.refuses("address in land 0", Bank.NO_SUCH, () -> bank.it.open(BOX, 0, Bank.NONE, 1));
        bank.refuses("birth in land 0", Bank.NO_SUCH, () -> bank.it.open(BOX, Bank.NONE, 0, 1));
        Bank.same("without a land it opens", bank.it.open(BOX, Bank.NONE, Bank.NONE, 1), 0);
        Bank.same("and goes on", bank.it.months(120), 0);
    }

    private static void objectsAreApart() {
        Bank.sentence("Promise 1: a new object has nothing of another one");
        Bank one = Bank.told(A + "sleep box a 1;pays box 9;wait 0;");
        one.it.open(BOX, 0, Bank.NONE, 7);
        one.it.months(13);
        Bank two = new Bank();
        Bank.alike("new", two.whole(), new Bank().whole());
        two.tell("land b 1 1 1 1;");
        Bank.same("the other one's land", one.it.letter(0, 0), 'a');
        Bank.same("the other one's month", one.it.told(2), 13);
    }

    private static void feedHighestFirst() {
        Bank.sentence("Promise 2: twenty bytes come on the TAPE, of each number the highest first");
        Bank bank = new Bank();
        Bank.same("feed", bank.it.feed(0x6c616e64, 0x20616263, 0x64203120, 0x32203320, 0x343b2020), 20);
        Bank.same("text", bank.it.text(20), 1);
        for (int i = 0; i < 4; i++) {
            Bank.same("letter " + i, bank.it.letter(0, i), 'a' + i);
            Bank.same("number " + i, bank.it.land(0, i), 1 + i);
        }
        int[] shifts = {24, 16, 8, 0};
        for (int number = 0; number < 5; number++) {
            for (int i = 0; i < 4; i++) {
                int[] five = {0x20202020, 0x20202020, 0x20202020, 0x20202020, 0x20202020};
                five[number] ^= 0xa0 << shifts[i];
                Bank high = new Bank();
                high.it.feed(five[0], five[1], five[2], five[3], five[4]);
                Bank.same("a byte 128", high.it.text(20), CANNOT_STAND - 10);
                Bank.same("its place", high.it.fault(), 4 * number + i);
            }
        }
        Bank lowest = new Bank();
        lowest.it.feed(-1, Integer.MIN_VALUE, Integer.MAX_VALUE, 0, 1);
        Bank.same("bytes 255", lowest.it.text(20), CANNOT_STAND - 10);
        Bank.same("the first", lowest.it.fault(), 0);
    }

    private static void feedUpToSixHundred() {
        Bank.sentence("Promise 2: how many there are (20 .. 600)");
        Bank bank = new Bank();
        for (int i = 1; i <= 30; i++) {
            Bank.same("feed " + i, bank.it.feed(i, -i, 0, -1, Integer.MIN_VALUE), 20 * i);
            Bank.same("told(8)", bank.it.told(8), 20 * i);
        }
    }

    private static void feedBeyondSixHundred() {
        Bank.sentence("Promise 2: NONE, doing nothing, if there would be more than 600");
        Bank bank = new Bank();
        String text = filled(A, 600);
        Bank.same("600 bytes", bank.feed(text), 600);
        String whole = bank.twin().whole();
        for (int i = 0; i < 3; i++) {
            Bank.same("beyond", bank.it.feed(-1, -1, -1, -1, -1), Bank.NONE);
            Bank.same("told(8)", bank.it.told(8), 600);
        }
        Bank.alike("nothing done", bank.twin().whole(), whole);
        Bank.same("it is not refused", bank.it.status(0) + bank.it.status(1) + bank.it.status(2), 0);
        Bank.same("the tape is as it was", bank.it.text(600), 1);
        Bank.same("there is room again", bank.it.feed(0, 0, 0, 0, 0), 20);
        for (int i = 2; i <= 30; i++) {
            bank.it.feed(0, 0, 0, 0, 0);
        }
        Bank.same("full again", bank.it.feed(0, 0, 0, 0, 0), Bank.NONE);
        bank.it.undo();
        Bank.same("full still", bank.it.feed(0, 0, 0, 0, 0), Bank.NONE);
    }

    private static void textFirstBytes() {
        Bank.sentence("Promise 3: the first n bytes of the TAPE (empty then): how many LANDS");
        String five = lands(5);
        for (int count = 0; count <= 5; count++) {
            Bank bank = new Bank();
            bank.feed(five);
            Bank.same("the first lands", bank.it.text(15 * count), count == 0 ? NO_LAND - 10 : count);
            Bank.same("empty then", bank.it.told(8), 0);
            Bank.same("told(0)", bank.it.told(0), count);
            bank.refuses("a byte of the empty tape", Bank.ARGUMENT, () -> bank.it.text(1));
            Bank.same("nothing of it", bank.it.text(0), NO_LAND - 10);
            Bank.same("fed anew from its start", bank.tell(A), 1);
        }
    }

    private static void textBytesOfTheTape() {
        Bank.sentence("Promise 3: IllegalArgumentException: n is not 0 to the TAPE's bytes (it stays)");
        Bank none = new Bank();
        none.refuses("text(1) of none", Bank.ARGUMENT, () -> none.it.text(1));
        none.refuses("text(-1) of none", Bank.ARGUMENT, () -> none.it.text(-1));
        Bank.same("text(0) of none", none.it.text(0), NO_LAND - 10);
        Bank bank = new Bank();
        bank.feed(filled(A, 20));
        for (int n : new int[] {-1, 21, 600, Integer.MIN_VALUE, Integer.MAX_VALUE}) {
            bank.refuses("text(" + n + ") of 20", Bank.ARGUMENT, () -> bank.it.text(n));
            Bank.same("it stays", bank.it.told(8), 20);
        }
        Bank.same("text(20)", bank.it.text(20), 1);
        Bank full = new Bank();
        full.feed(filled(A, 600));
        full.refuses("text(601) of 600", Bank.ARGUMENT, () -> full.it.text(601));
        Bank.same("text(600)", full.it.text(600), 1);
    }

    private static void textTellsAllAnew() {
        Bank.sentence("Promise 3: tell all anew (no ACCOUNTS, MONTH 0, an empty book)");
        Bank bank = Bank.told("land a 0 50 600 2;land b 0 0 0 1;sleep box a 1;sleep box b 1;pays box 999;pays wages 5;"
                + "wait 0;letter 9;home b;order address;");
        for (int i = 0; i < 10; i++) {
            bank.it.open(BOX, 0, i == 4 ? 0 : i % 2, 5000 * i);
        }
        bank.it.months(13);
        bank.it.months(5);
        bank.it.claim(2);
        bank.it.address(4, 1);
        bank.it.pass(4);
        bank.it.open(BOX, 0, 0, 9000);
        bank.it.open(BOX, 0, 0, 9000);
        bank.it.draw(10, 70);
        bank.it.close(11);
        Bank.holds("passed on, paid, taken out", bank.it.purse(1, 3) * bank.it.purse(0, 1) * bank.it.books(2) > 0);
        String text = "land c 3 4 5 6;land d 0 0 0 1;sleep wages c 9;";
        Bank fresh = Bank.told(text);
        Bank.same("lands", bank.tell(text), 2);
        Bank.alike("as in a new object", bank.twin().world(), fresh.world());
        for (int i = 0; i < 12; i++) {
            Bank.same("open anew", bank.it.open(i % 5, 0, Bank.NONE, i), i);
            fresh.it.open(i % 5, 0, Bank.NONE, i);
        }
        bank.it.months(50);
        fresh.it.months(50);
        Bank.alike("it goes as in a new object", bank.twin().world(), fresh.twin().world());
    }

    private static void textsOneBehindAnother() {
        Bank.sentence("Promise 3: tell all anew: nothing of the text before, of its bytes, of its laws");
        Bank bank = new Bank();
        StringBuilder law = new StringBuilder(A + "sleep box a 7");
        while (law.length() < 590) {
            law.append("+1");
        }
        for (int i = 0; i < 12; i++) {
            Bank.same("a long law", bank.tell(law + ";"), 1);
            bank.it.open(BOX, 0, Bank.NONE, 0);
            Bank.same("its sleep", bank.it.sleep(0), 7 + (law.length() - 28) / 2);
        }
        String[] before = {"wait box;", "home letters letters letters", "pays box 1;" + A, "order home home home", "land  letter"};
        String[] then = {"pays", "land", "pays ", "order", "land"};
        for (int i = 0; i < before.length; i++) {
            bank.tell(before[i]);
            Bank.same("\"" + then[i] + "\" behind \"" + before[i] + "\"", bank.tell(then[i]), CANNOT_STAND - 10);
            Bank.same("its place", bank.it.fault(), then[i].length());
            bank.feed(before[i]);
            Bank.same("the first bytes of it", bank.it.text(5), CANNOT_STAND - 10);
            Bank.same("their place", bank.it.fault(), 5);
        }
    }

    private static void textWithAFault() {
        Bank.sentence("Promise 3: or the FAULT less 10 (all but the TAPE stays)");
        String[] texts = {"x", "land a 12 0 0 1;", A + A, lands(6), A + "sleep box a ((((1))));", A + "pays box 1;pays box 1;", ""};
        for (int i = 0; i < texts.length; i++) {
            Bank bank = Bank.told(lands(2) + "sleep box a 1;wait 9;letter 8;pays box 7;home b;order birth;");
            bank.it.open(BOX, 0, 0, 500);
            bank.it.months(24);
            String world = bank.twin().world();
            Bank.same("fault " + (i + 1), bank.tell(texts[i]), i - 9);
            Bank.alike("all stays", bank.twin().world(), world);
            Bank.same("but the tape", bank.it.told(8), 0);
            Bank.same("no act", bank.it.told(9), 3);
            Bank.same("nothing refused", bank.it.status(1), 0);
        }
    }

    private static void faultOfTheLatestText() {
        Bank.sentence("Promise 4: the FAULT of the latest text() that threw nothing; NONE without one, and ahead of any");
        Bank bank = new Bank();
        Bank.same("ahead of any", bank.it.fault(), Bank.NONE);
        Bank.kindOfRefusal(() -> bank.it.text(1));
        Bank.same("ahead of any that threw nothing", bank.it.fault(), Bank.NONE);
        bank.tell(A + "x");
        Bank.same("with one", bank.it.fault(), 15);
        bank.it.feed(0, 0, 0, 0, 0);
        Bank.kindOfRefusal(() -> bank.it.text(21));
        Bank.kindOfRefusal(() -> bank.it.text(-1));
        Bank.same("not of one that threw", bank.it.fault(), 15);
        bank.it.text(0);
        Bank.same("the latest one", bank.it.fault(), 0);
        bank.tell("wait 1;");
        Bank.same("the latest one again", bank.it.fault(), 7);
        bank.tell(A);
        Bank.same("without one", bank.it.fault(), Bank.NONE);
    }

    private static void faultsPlaces() {
        Bank.sentence("Promise 4: the place of the FAULT (0 .. 600)");
        fault("x", CANNOT_STAND, 0);
        fault("", NO_LAND, 0);
        fault(filled("", 600), NO_LAND, 600);
        fault(filled(A + "home a", 600), CANNOT_STAND, 600);
        fault(filled(A, 599) + "x", CANNOT_STAND, 599);
        fault(filled(A, 599) + ";", CANNOT_STAND, 599);
    }

    private static void openNumbers() {
        Bank.sentence("Promise 5: an ACCOUNT is opened (ADDRESS, BIRTH: NONE: none): its number");
        Bank bank = Bank.told(lands(2));
        int[][] opened = {{0, Bank.NONE, Bank.NONE, 0}, {1, 0, Bank.NONE, 1}, {2, Bank.NONE, 0, 2}, {3, 1, 0, 3}, {4, 0, 1, MOST}};
        for (int i = 0; i < opened.length; i++) {
            int[] one = opened[i];
            Bank.same("its number", bank.it.open(one[0], one[1], one[2], one[3]), i);
            int[] want = {one[0], one[1], one[2], one[3], 0, 0, 0, 0, Bank.NONE, Bank.NONE, 0};
            for (int what = 0; what < want.length; what++) {
                Bank.same("account(" + i + ", " + what + ")", bank.it.account(i, what), want[what]);
            }
        }
    }

    private static void openLands() {
        Bank.sentence("Promise 5: NoSuchElementException: no such LAND");
        Bank bank = Bank.told(lands(2));
        for (int land : new int[] {-2, 2, 5, Integer.MIN_VALUE, Integer.MAX_VALUE}) {
            bank.refuses("address " + land, Bank.NO_SUCH, () -> bank.it.open(BOX, land, 0, 0));
            bank.refuses("birth " + land, Bank.NO_SUCH, () -> bank.it.open(BOX, 0, land, 0));
        }
        Bank.same("the last land", bank.it.open(BOX, 1, 1, 0), 0);
        Bank five = Bank.told(lands(5));
        Bank.same("the fifth land", five.it.open(BOX, 4, 4, 0), 0);
        five.refuses("a sixth", Bank.NO_SUCH, () -> five.it.open(BOX, 5, 4, 0));
    }

    private static void openKinds() {
        Bank.sentence("Promise 5: IllegalArgumentException: another KIND");
        Bank bank = Bank.told(A);
        for (int kind : new int[] {-1, 5, Integer.MIN_VALUE, Integer.MAX_VALUE}) {
            bank.refuses("kind " + kind, Bank.ARGUMENT, () -> bank.it.open(kind, 0, 0, 0));
        }
        for (int kind = 0; kind < 5; kind++) {
            Bank.same("kind " + kind, bank.it.open(kind, 0, 0, 0), kind);
            Bank.same("its kind", bank.it.account(kind, 0), kind);
        }
    }

    private static void openCents() {
        Bank.sentence("Promise 5: IllegalArgumentException: CENTS (0 to 100,000,000)");
        Bank bank = Bank.told(A);
        for (int cents : new int[] {-1, MOST + 1, Integer.MIN_VALUE, Integer.MAX_VALUE}) {
            bank.refuses("cents " + cents, Bank.ARGUMENT, () -> bank.it.open(BOX, 0, 0, cents));
        }
        int[] stand = {0, 1, MOST - 1, MOST};
        for (int i = 0; i < stand.length; i++) {
            Bank.same("cents " + stand[i], bank.it.open(BOX, 0, 0, stand[i]), i);
            Bank.same("its cents", bank.it.account(i, 3), stand[i]);
        }
        Bank.same("brought in", bank.it.books(0), 2L * MOST);
    }

    private static void openTwelve() {
        Bank.sentence("Promise 5: IllegalStateException: there are 12");
        Bank bank = Bank.told(A);
        for (int i = 0; i < 12; i++) {
            Bank.same("open", bank.it.open(BOX, 0, 0, i), i);
        }
        bank.refuses("a thirteenth", Bank.STATE, () -> bank.it.open(BOX, 0, 0, 0));
        bank.it.close(0);
        bank.it.close(11);
        bank.refuses("a thirteenth, two closed", Bank.STATE, () -> bank.it.open(BOX, 0, 0, 0));
        bank.it.undo();
        bank.it.undo();
        Bank.same("the twelfth taken back", bank.it.undo(), 5);
        Bank.same("there are 11", bank.it.open(BOX, 0, 0, 99), 11);
        bank.refuses("there are 12 again", Bank.STATE, () -> bank.it.open(BOX, 0, 0, 0));
    }

    private static void contactSince() {
        Bank.sentence("Promise 6: CONTACT: how many MONTHS SINCE was");
        Bank bank = Bank.told(A + "sleep box a 2;wait 60;");
        bank.it.open(BOX, 0, Bank.NONE, 5);
        int[] months = {0, 1, 2, 3, 11};
        for (int n : months) {
            bank.go(n);
            Bank.same("behind " + n, bank.it.contact(0), n);
            Bank.same("since", bank.it.account(0, 6), 0);
            Bank.same("awake", bank.it.account(0, 4), 0);
        }
        Bank old = Bank.told(A);
        old.it.open(BOX, 0, Bank.NONE, 5);
        old.go(6000);
        Bank.same("behind all months", old.it.contact(0), 6000);
    }

    private static void depositCents() {
        Bank.sentence("Promise 7: its owner brings CENTS (1 to 1,000,000), which is a CONTACT: how many it has");
        Bank bank = Bank.told(A);
        bank.it.open(BOX, 0, Bank.NONE, 0);
        bank.it.months(4);
        for (int cents : new int[] {0, -1, 1_000_001, Integer.MIN_VALUE, Integer.MAX_VALUE}) {
            bank.refuses("deposit " + cents, Bank.ARGUMENT, () -> bank.it.deposit(0, cents));
        }
        int[] stand = {1, 2, 999_999, 1_000_000};
        int[] has = {1, 3, 1_000_002, 2_000_002};
        for (int i = 0; i < stand.length; i++) {
            Bank.same("deposit " + stand[i], bank.it.deposit(0, stand[i]), has[i]);
            Bank.same("brought in", bank.it.books(0), has[i]);
            Bank.same("since", bank.it.account(0, 6), 0);
            bank.it.months(1);
        }
    }

    private static void depositUpToTheMost() {
        Bank.sentence("Promise 7: IllegalStateException: also more than 100,000,000");
        int[] cents = {1, 2, 1_000_000};
        for (int one : cents) {
            Bank bank = Bank.told(A);
            bank.it.open(BOX, 0, Bank.NONE, MOST - one);
            if (one < 1_000_000) {
                bank.refuses("one too many", Bank.STATE, () -> bank.it.deposit(0, one + 1));
            }
            Bank.same("just as many", bank.it.deposit(0, one), MOST);
            bank.refuses("no more", Bank.STATE, () -> bank.it.deposit(0, 1));
            bank.refuses("the most", Bank.STATE, () -> bank.it.deposit(0, 1_000_000));
            Bank.same("brought in", bank.it.books(0), MOST);
        }
    }

    private static void drawCents() {
        Bank.sentence("Promise 8: its owner takes CENTS (1 to 1,000,000, as above), which is a CONTACT: how many are left");
        Bank bank = Bank.told(A);
        bank.it.open(BOX, 0, Bank.NONE, 5_000_000);
        bank.it.months(4);
        for (int cents : new int[] {0, -1, 1_000_001, Integer.MIN_VALUE, Integer.MAX_VALUE}) {
            bank.refuses("draw " + cents, Bank.ARGUMENT, () -> bank.it.draw(0, cents));
        }
        int[] stand = {1, 999_999, 1_000_000};
        int[] left = {4_999_999, 4_000_000, 3_000_000};
        for (int i = 0; i < stand.length; i++) {
            Bank.same("draw " + stand[i], bank.it.draw(0, stand[i]), left[i]);
            Bank.same("taken out", bank.it.books(2), 5_000_000 - left[i]);
            Bank.same("since", bank.it.account(0, 6), 0);
            bank.it.months(1);
        }
    }

    private static void drawAll() {
        Bank.sentence("Promise 8: IllegalStateException: also there are not so many");
        int[] cents = {1, 2, 500, 999_999};
        for (int one : cents) {
            Bank bank = Bank.told(A);
            bank.it.open(BOX, 0, Bank.NONE, one);
            bank.refuses("one too many", Bank.STATE, () -> bank.it.draw(0, one + 1));
            bank.refuses("the most", Bank.STATE, () -> bank.it.draw(0, 1_000_000));
            Bank.same("all", bank.it.draw(0, one), 0);
            bank.refuses("of nothing", Bank.STATE, () -> bank.it.draw(0, 1));
            Bank.same("still awake", bank.it.account(0, 4), 0);
        }
    }

    /** One of each state: AWAKE, WRITTEN, HANDED, CLAIMED, CLOSED, and a NAMELESS one; opened at a, born nowhere. */
    private static Bank eachState() {
        Bank bank = Bank.told("land a 0 50 0 1;land b 0 0 0 1;sleep box a 1;sleep box b 1;sleep savings a 12;"
                + "sleep wages a 600;order address;");
        int[] kinds = {1, SAVINGS, BOX, BOX, BOX, BOX};
        for (int i = 0; i < kinds.length; i++) {
            bank.it.open(kinds[i], 0, Bank.NONE, i == 5 ? 49 : 1000);
        }
        bank.it.close(4);
        bank.it.months(12);
        bank.it.claim(3);
        int[] states = {0, 1, 2, 3, 4, 2};
        for (int i = 0; i < states.length; i++) {
            Bank.same("state of " + i, bank.it.account(i, 4), states[i]);
        }
        Bank.same("nameless", bank.it.account(5, 10), 1);
        return bank;
    }

    private static void addressOfEachState() {
        Bank.sentence("Promise 9: its ADDRESS is another one (NONE: lost), no CONTACT, whatever its STATE: what it was");
        Bank bank = eachState();
        for (int i = 0; i < 6; i++) {
            int state = bank.it.account(i, 4);
            int since = bank.it.account(i, 6);
            long print = bank.it.print();
            Bank.same("what it was", bank.it.address(i, 1), 0);
            Bank.same("another", bank.it.address(i, Bank.NONE), 1);
            Bank.same("lost", bank.it.address(i, Bank.NONE), Bank.NONE);
            Bank.same("lost still", bank.it.account(i, 1), Bank.NONE);
            Bank.same("found", bank.it.address(i, 1), Bank.NONE);
            Bank.same("now", bank.it.account(i, 1), 1);
            Bank.same("state", bank.it.account(i, 4), state);
            Bank.same("since", bank.it.account(i, 6), since);
            Bank.same("print", bank.it.print(), print);
        }
    }

    private static void addressLands() {
        Bank.sentence("Promise 9: NoSuchElementException: no such LAND, ACCOUNT");
        Bank bank = eachState();
        for (int land : new int[] {-2, 2, 5, Integer.MIN_VALUE, Integer.MAX_VALUE}) {
            bank.refuses("land " + land, Bank.NO_SUCH, () -> bank.it.address(0, land));
            bank.refuses("land " + land + " of a closed one", Bank.NO_SUCH, () -> bank.it.address(4, land));
        }
        bank.refuses("account 6", Bank.NO_SUCH, () -> bank.it.address(6, 0));
        bank.refuses("account -1", Bank.NO_SUCH, () -> bank.it.address(-1, 0));
        bank.refuses("neither", Bank.NO_SUCH, () -> bank.it.address(6, 2));
        Bank.same("the last land", bank.it.address(0, 1), 0);
        Bank.same("the first land", bank.it.address(0, 0), 1);
    }

    private static void closePaysOut() {
        Bank.sentence("Promise 10: it is CLOSED: CENTS paid out");
        for (int cents : new int[] {0, 1, MOST}) {
            for (int months = 0; months <= 3; months += 3) {
                Bank bank = Bank.told(A + "sleep box a 2;");
                bank.it.open(BOX, 0, Bank.NONE, cents);
                bank.go(months);
                Bank.same("paid out", bank.it.close(0), cents);
                int[] want = {BOX, 0, Bank.NONE, 0, 4, months, months, months / 3, Bank.NONE, months == 0 ? Bank.NONE : 2, 0};
                for (int what = 0; what < want.length; what++) {
                    Bank.same("account(0, " + what + ")", bank.it.account(0, what), want[what]);
                }
                Bank.same("books(2)", bank.it.books(2), cents);
                Bank.same("books(4)", bank.it.books(4), 0);
                bank.it.months(12);
                Bank.same("its clocks stand", bank.it.account(0, 5), months);
                bank.refuses("closed twice", Bank.STATE, () -> bank.it.close(0));
            }
        }
    }

    private static void monthsOneTo120() {
        Bank.sentence("Promise 11: so many MONTHS go (1 to 120)");
        Bank bank = new Bank();
        for (int n : new int[] {0, -1, 121, Integer.MIN_VALUE, Integer.MAX_VALUE}) {
            bank.refuses("months(" + n + ")", Bank.ARGUMENT, () -> bank.it.months(n));
        }
        int month = 0;
        for (int n : new int[] {1, 2, 119, 120}) {
            Bank.same("months(" + n + ")", bank.it.months(n), 0);
            month += n;
            Bank.same("month", bank.it.told(2), month);
        }
    }

    private static void monthsUpTo6000() {
        Bank.sentence("Promise 11: IllegalStateException: beyond MONTH 6,000");
        Bank bank = Bank.told(A);
        bank.it.open(BOX, 0, Bank.NONE, 5);
        bank.go(5881);
        bank.refuses("120 from 5,881", Bank.STATE, () -> bank.it.months(120));
        Bank.same("119 from 5,881", bank.it.months(119), 0);
        Bank.same("month", bank.it.told(2), 6000);
        Bank.same("age", bank.it.account(0, 5), 6000);
        bank.refuses("1 from 6,000", Bank.STATE, () -> bank.it.months(1));
        bank.refuses("120 from 6,000", Bank.STATE, () -> bank.it.months(120));
        bank.refuses("0 from 6,000", Bank.ARGUMENT, () -> bank.it.months(0));
        bank.it.undo();
        Bank.same("118 from 5,881", bank.it.months(118), 0);
        bank.refuses("2 from 5,999", Bank.STATE, () -> bank.it.months(2));
        Bank.same("1 from 5,999", bank.it.months(1), 0);
        bank.tell(A);
        Bank.same("a new text begins anew", bank.it.months(120), 0);
    }

    private static void monthsHandedOver() {
        Bank.sentence("Promise 11: how many ACCOUNTS were HANDED over");
        Bank bank = Bank.told("land a 0 0 0 1;land b 3 900 0 1;sleep box a 1;sleep box b 1;sleep wages a 13;");
        for (int i = 0; i < 12; i++) {
            bank.it.open(i == 11 ? 1 : BOX, i < 4 || i == 11 ? 0 : 1, Bank.NONE, 100 * i);
        }
        bank.it.close(0);
        int[] months = {2, 1, 1, 7, 1, 11, 1, 120};
        int[] handed = {0, 0, 0, 0, 3, 7, 1, 0};
        Bank wait = bank.twin();
        for (int i = 0; i < months.length; i++) {
            Bank.same("months(" + months[i] + ")", bank.it.months(months[i]), handed[i]);
        }
        Bank.same("all at once", wait.it.months(120), 11);
        Bank.same("rows", wait.it.told(6), 11);
        Bank.same("no more", wait.it.months(120), 0);
    }

    private static void claimInAll() {
        Bank.sentence("Promise 12: CLAIM: what comes back in all");
        Bank bank = Bank.told("land a 0 0 999 50;sleep box a 1;");
        bank.it.open(BOX, 0, Bank.NONE, MOST);
        bank.it.open(BOX, 0, Bank.NONE, 0);
        bank.it.open(BOX, 0, Bank.NONE, 1);
        bank.it.months(12);
        Bank.same("at once", bank.twin().it.claim(0), MOST);
        bank.go(600);
        Bank.same("more than an int holds is no matter", bank.it.claim(0), 599_500_000L);
        Bank.same("nothing", bank.it.claim(1), 0);
        Bank.same("one", bank.it.claim(2), 5);
        Bank.same("interest", bank.it.purse(0, 1), 499_500_004L);
        Bank.same("claimed", bank.it.books(6), MOST + 1);
    }

    private static void claimRefused() {
        Bank.sentence("Promise 12: IllegalStateException: it is not HANDED, it is NAMELESS");
        Bank bank = eachState();
        for (int i : new int[] {0, 1, 3, 4, 5}) {
            bank.refuses("claim of " + i, Bank.STATE, () -> bank.it.claim(i));
        }
        Bank.same("the handed one", bank.it.claim(2), 1000);
        bank.refuses("a second time", Bank.STATE, () -> bank.it.claim(2));
        bank.it.undo();
        Bank.same("taken back", bank.it.claim(2), 1000);
    }

    private static void passLand() {
        Bank.sentence("Promise 13: PASSED ON: the LAND");
        Bank bank = Bank.told(lands(5) + "sleep box a 1;sleep box b 1;sleep box c 1;sleep box d 1;sleep box e 1;");
        bank.it.open(BOX, 0, Bank.NONE, 70);
        bank.it.months(12);
        int[] lands = {4, 0, 1, 3, 2, 4};
        for (int land : lands) {
            bank.it.address(0, land);
            Bank.same("pass", bank.it.pass(0), land);
            Bank.same("held by", bank.it.account(0, 8), land);
            Bank.same("its accounts", bank.it.land(land, 5), 1);
            Bank.same("its purse", bank.it.purse(land, 0), 70);
        }
        Bank.same("twice to e", bank.it.purse(4, 3), 140);
        Bank.same("once to a", bank.it.purse(0, 3), 70);
    }

    private static void passRefused() {
        Bank.sentence("Promise 13: IllegalStateException: it is not HANDED, its LAND is none or the same");
        Bank bank = eachState();
        for (int i : new int[] {2, 5}) {
            bank.refuses("the same, " + i, Bank.STATE, () -> bank.it.pass(i));
            bank.it.address(i, Bank.NONE);
            bank.refuses("none, " + i, Bank.STATE, () -> bank.it.pass(i));
        }
        for (int i : new int[] {0, 1, 3, 4}) {
            bank.it.address(i, 1);
            bank.refuses("not handed, " + i, Bank.STATE, () -> bank.it.pass(i));
        }
        for (int i : new int[] {2, 5}) {
            bank.it.address(i, 1);
            Bank.same("another", bank.it.pass(i), 1);
            bank.refuses("the same then", Bank.STATE, () -> bank.it.pass(i));
        }
    }

    private static void notAwakeOrWritten() {
        Bank.sentence("Promise 6: IllegalStateException: it is not AWAKE or WRITTEN (so below: 7, 8, 10)");
        Bank bank = eachState();
        for (int i : new int[] {2, 3, 4, 5}) {
            bank.refuses("contact " + i, Bank.STATE, () -> bank.it.contact(i));
            bank.refuses("deposit " + i, Bank.STATE, () -> bank.it.deposit(i, 1));
            bank.refuses("draw " + i, Bank.STATE, () -> bank.it.draw(i, 1));
            bank.refuses("close " + i, Bank.STATE, () -> bank.it.close(i));
        }
        for (int i : new int[] {0, 1}) {
            Bank.same("contact " + i, bank.it.contact(i), 12);
            Bank.same("deposit " + i, bank.it.deposit(i, 1), 1001);
            Bank.same("draw " + i, bank.it.draw(i, 1), 1000);
            Bank.same("close " + i, bank.it.close(i), 1000);
        }
    }

    private static void noSuchAccount() {
        Bank.sentence("Promise 5: NoSuchElementException: no such ACCOUNT (so below: 6 to 13)");
        Bank bank = eachState();
        for (int i : new int[] {-1, 6, 12, FAR[0], FAR[1]}) {
            bank.refuses("contact " + i, Bank.NO_SUCH, () -> bank.it.contact(i));
            bank.refuses("deposit " + i, Bank.NO_SUCH, () -> bank.it.deposit(i, 1));
            bank.refuses("draw " + i, Bank.NO_SUCH, () -> bank.it.draw(i, 1));
            bank.refuses("address " + i, Bank.NO_SUCH, () -> bank.it.address(i, 0));
            bank.refuses("close " + i, Bank.NO_SUCH, () -> bank.it.close(i));
            bank.refuses("claim " + i, Bank.NO_SUCH, () -> bank.it.claim(i));
            bank.refuses("pass " + i, Bank.NO_SUCH, () -> bank.it.pass(i));
        }
        Bank.same("the last there is", bank.it.address(5, 1), 0);
    }
}
