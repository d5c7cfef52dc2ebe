/** Terms, part 2: each sentence on accounts, months, contact, claim and passing on that names a boundary case. */
public final class Terms2Test extends TextCase {
    private static final int SAVINGS = 0;
    private static final int WAGES = 1;
    private static final int BOX = 4;
    private static final int MOST = 100_000_000;
    /** 10 to the 12, the greatest result. */
    private static final String P = "(999999+1)*(999999+1)";
    /** 10 to the 12 less 1. */
    private static final String P_LESS_1 = "999999*(999999+1)+999999";

    public static void main(String[] args) {
        twelveAtMost();
        cents();
        ageAndSince();
        landOfAnAccount();
        valuesOfSleep();
        greatestWholeNumberNotAbove();
        byZero();
        resultsAboveAndBelow();
        productsThatWrapAround();
        firstBelowTheSecond();
        zeroToSixHundred();
        deepest();
        interestIsCut();
        interestUpToTheMost();
        byTheMonthThatIsNext();
        sinceNotBelowSleep();
        letterCentsAsFarAsThereAre();
        waitMonthsOrMore();
        waitNone();
        monthModulo12();
        rowOfTheBook();
        centsBelowLeast();
        withoutALand();
        contact();
        holds();
        wholeMonths();
        twelveTimesYears();
        claimIsCut();
        interestIsBesides();
        passedOn();
        namelessPassedOn();
        sinceHandedFirst();
        Bank.end("Terms2Test");
    }

    private static void tells(Bank bank, int account, int... want) {
        for (int what = 0; what < want.length; what++) {
            Bank.same("account(" + account + ", " + what + ")", bank.it.account(account, what), want[what]);
        }
    }

    private static void twelveAtMost() {
        Bank.sentence("Terms 2: ACCOUNTS (12 at most, numbered as they are opened)");
        Bank bank = Bank.told(A + "sleep box a 1;wait 0;");
        for (int i = 0; i < 12; i++) {
            Bank.same("told(1)", bank.it.told(1), i);
            bank.refuses("not opened yet", Bank.NO_SUCH, () -> bank.it.contact(bank.it.told(1)));
            Bank.same("open", bank.it.open(BOX, 0, Bank.NONE, i), i);
        }
        bank.refuses("a thirteenth", Bank.STATE, () -> bank.it.open(BOX, 0, Bank.NONE, 0));
        Bank.same("told(1)", bank.it.told(1), 12);
        Bank.same("all twelve are handed", bank.it.months(12), 12);
        Bank.same("all bits", bank.it.land(0, 5), 4095);
        for (int i = 0; i < 12; i++) {
            Bank.same("account of row " + i, bank.it.row(i, 1), i);
        }
    }

    private static void cents() {
        Bank.sentence("Terms 2: CENTS (0 to 100,000,000)");
        for (int cents : new int[] {0, 1, MOST - 1, MOST}) {
            Bank bank = Bank.told(A);
            bank.it.open(BOX, 0, Bank.NONE, cents);
            Bank.same("cents", bank.it.account(0, 3), cents);
            Bank.same("in accounts", bank.it.books(4), cents);
        }
        Bank bank = Bank.told(A);
        bank.refuses("-1", Bank.ARGUMENT, () -> bank.it.open(BOX, 0, Bank.NONE, -1));
        bank.refuses("100,000,001", Bank.ARGUMENT, () -> bank.it.open(BOX, 0, Bank.NONE, MOST + 1));
        bank.it.open(BOX, 0, Bank.NONE, MOST - 1);
        Bank.same("up to the most", bank.it.deposit(0, 1), MOST);
        bank.refuses("above the most", Bank.STATE, () -> bank.it.deposit(0, 1));
        bank.it.draw(0, 1);
        bank.refuses("two above", Bank.STATE, () -> bank.it.deposit(0, 2));
        Bank.same("one is not", bank.it.deposit(0, 1), MOST);
    }

    private static void ageAndSince() {
        Bank.sentence("Terms 2: AGE: MONTHS since it was opened; SINCE: since the latest CONTACT (or its opening)");
        Bank bank = Bank.told(A);
        bank.it.months(7);
        bank.it.open(BOX, 0, Bank.NONE, 0);
        tells(bank, 0, BOX, 0, Bank.NONE, 0, 0, 0, 0);
        bank.it.months(1);
        tells(bank, 0, BOX, 0, Bank.NONE, 0, 0, 1, 1);
        Bank.same("since was", bank.it.contact(0), 1);
        tells(bank, 0, BOX, 0, Bank.NONE, 0, 0, 1, 0);
        Bank.same("since was", bank.it.contact(0), 0);
        bank.go(5992);
        tells(bank, 0, BOX, 0, Bank.NONE, 0, 0, 5993, 5992);
        Bank.same("the last month", bank.it.told(2), 6000);
    }

    private static void landOfAnAccount() {
        Bank.sentence("Terms 2: LAND: the first of ADDRESS, BIRTH, home that there is and that takes its KIND; NONE without");
        Bank bank = Bank.told(lands(4) + "sleep box b 1;sleep box c 1;sleep box d 1;sleep wages b 1;home d;");
        int[][] opened = {{BOX, 1, 2, 1}, {BOX, 0, 2, 2}, {BOX, Bank.NONE, 2, 2}, {BOX, 0, 0, 3}, {BOX, 0, Bank.NONE, 3},
            {BOX, Bank.NONE, Bank.NONE, 3}, {WAGES, 2, 1, 1}, {WAGES, 2, 3, Bank.NONE}, {WAGES, Bank.NONE, Bank.NONE, Bank.NONE},
            {SAVINGS, 1, 2, Bank.NONE}};
        for (int i = 0; i < opened.length; i++) {
            bank.it.open(opened[i][0], opened[i][1], opened[i][2], 5);
            Bank.same("land of account " + i, bank.it.account(i, 8), opened[i][3]);
            Bank.same("sleep of account " + i, bank.it.sleep(i), opened[i][3] == Bank.NONE ? Bank.NONE : 1);
        }
        Bank new1 = new Bank();
        new1.it.open(BOX, Bank.NONE, Bank.NONE, 5);
        Bank.same("no lands at all", new1.it.account(0, 8), Bank.NONE);
    }

    /** Of an account of so many cents, behind so many months, its law asked of land 1. */
    private static void sleeps(String expression, int cents, int months, int want) {
        Bank bank = Bank.told("land a 0 0 0 1;land b 0 0 0 1;sleep box b " + expression + ";order address;letter 1;");
        bank.it.open(BOX, 0, Bank.NONE, cents);
        if (months > 0) {
            bank.go(months);
        }
        bank.it.address(0, 1);
        Bank.same("sleep by " + expression, bank.it.sleep(0), want);
    }

    private static void sleeps(String expression, int want) {
        sleeps(expression, 0, 0, want);
    }

    private static void valuesOfSleep() {
        Bank.sentence("Terms 2: SLEEP: cents: its CENTS, age, since, letters");
        sleeps("cents", 0, 0, 0);
        sleeps("cents", 599, 0, 599);
        sleeps("cents/200000", MOST, 0, 500);
        sleeps("age", 0, 0, 0);
        sleeps("age/20", 0, 6000, 300);
        sleeps("since/20", 0, 6000, 300);
        sleeps("letters+7", 0, 0, 7);
        sleeps("cents+since-age+letters", 3, 500, 3);
        Bank bank = Bank.told(A + "sleep box a letters*100;letter 3;");
        bank.it.open(BOX, 0, Bank.NONE, 10);
        for (int letters = 0; letters < 3; letters++) {
            Bank.same("letters", bank.it.sleep(0), 100 * letters);
            bank.go(Math.max(1, 100 * letters));
            Bank.same("written", bank.it.account(0, 4), 1);
            bank.it.contact(0);
        }
    }

    private static void greatestWholeNumberNotAbove() {
        Bank.sentence("Terms 2: SLEEP: / gives the greatest whole number not above");
        sleeps("7/2", 3);
        sleeps("8/2", 4);
        sleeps("1/2", 0);
        sleeps("0/2", 0);
        sleeps("100+(0-7)/2", 96);
        sleeps("100+(0-8)/2", 96);
        sleeps("100+(0-9)/2", 95);
        sleeps("100+(0-1)/999999", 99);
        sleeps("100+7/(0-2)", 96);
        sleeps("100+8/(0-2)", 96);
        sleeps("100+(0-7)/(0-2)", 103);
        sleeps("100+(0-1)/(0-999999)", 100);
        sleeps("100+0/(0-5)", 100);
        sleeps("100+(0-" + P + "-1)/(999999+1)/(999999+1)", 99);
    }

    private static void byZero() {
        Bank.sentence("Terms 2: SLEEP: by 0 it is 0");
        sleeps("7/0", 0);
        sleeps("5+7/0", 5);
        sleeps("5+0/0", 5);
        sleeps("5+(0-7)/0", 5);
        sleeps("5+7/(3-3)*9", 5);
        sleeps("5+7/cents", 0, 0, 5);
        sleeps("5+7/cents", 7, 0, 6);
        sleeps("min(7/0,4)+3", 3);
        sleeps("if (7/0) less 1 then 3 else 4", 3);
    }

    private static void resultsAboveAndBelow() {
        Bank.sentence("Terms 2: SLEEP: each result above 10 to the 12 is that, below less 10 to the 12 likewise");
        sleeps(P + "-1-(" + P_LESS_1 + ")+100", 100);
        sleeps(P + "-(" + P_LESS_1 + ")+100", 101);
        sleeps(P + "+1-(" + P_LESS_1 + ")+100", 101);
        sleeps(P + "+999999-(" + P_LESS_1 + ")+100", 101);
        sleeps("(999999+2)*(999999+1)-(" + P_LESS_1 + ")+100", 101);
        sleeps("999999*(999999+2)-(" + P_LESS_1 + ")+100", 100);
        sleeps("(999999+2)*(999999+2)-(" + P_LESS_1 + ")+100", 101);
        sleeps("0-" + P + "+1+" + P_LESS_1 + "+100", 100);
        sleeps("0-" + P + "+" + P_LESS_1 + "+100", 99);
        sleeps("0-" + P + "-1+" + P_LESS_1 + "+100", 99);
        sleeps("0-" + P + "-999999+" + P_LESS_1 + "+100", 99);
        sleeps("(0-999999-2)*(999999+1)+" + P_LESS_1 + "+100", 99);
        sleeps("(999999+1)*(0-999999-2)+" + P_LESS_1 + "+100", 99);
        sleeps("(0-999999-2)*(0-999999-1)-(" + P_LESS_1 + ")+100", 101);
        sleeps("(" + P + "+" + P + ")/(999999+1)-999999+100", 101);
        sleeps("(0-" + P + "-" + P + ")/(999999+1)+999999+100", 99);
        sleeps("min(" + P + "+1," + P + "+2)-(" + P_LESS_1 + ")", 1);
        sleeps("if (" + P + ") less (" + P + "+1) then 1 else 2", 2);
        sleeps("if (" + P_LESS_1 + ") less (" + P + "+1) then 1 else 2", 1);
    }

    private static void productsThatWrapAround() {
        Bank.sentence("Terms 2: SLEEP: each result above 10 to the 12 is that: products beyond a long");
        sleeps("(65536*65536)*(65536*65536)", 600);
        sleeps("(0-65536*65536)*(65536*65536)+" + P + "+5", 5);
        sleeps("(65536*65536)*(0-65536*65536)+" + P + "+5", 5);
        sleeps("(0-65536*65536)*(0-65536*65536)-" + P + "+5", 5);
        sleeps("(65536*65536)*(32768*65536)-" + P + "+5", 5);
        sleeps("(65536*65536)*(32768*65536+1)-" + P + "+5", 5);
        sleeps(P + "*(" + P + ")-" + P + "+5", 5);
        sleeps("(0-" + P + ")*(" + P + ")+" + P + "+5", 5);
        sleeps("(0-" + P + ")*(0-" + P + ")-" + P + "+5", 5);
        sleeps(P + "*(" + P + ")*0+5", 5);
        sleeps(P + "*cents-" + P + "+5", MOST, 0, 5);
        sleeps(P + "*cents+5", 0, 0, 5);
        sleeps(P + "*cents-" + P + "+5", 1, 0, 5);
    }

    private static void firstBelowTheSecond() {
        Bank.sentence("Terms 2: SLEEP: if .. less: the first F below the second one");
        sleeps("if 4 less 5 then 1 else 2", 1);
        sleeps("if 5 less 5 then 1 else 2", 2);
        sleeps("if 6 less 5 then 1 else 2", 2);
        sleeps("if (0-1) less 0 then 1 else 2", 1);
        sleeps("if 0 less (0-1) then 1 else 2", 2);
        sleeps("min(4,5)*100+min(5,4)*10+min(4,4)", 444);
        sleeps("min(0-1,0)+9", 8);
    }

    private static void zeroToSixHundred() {
        Bank.sentence("Terms 2: SLEEP: put to 0 to 600");
        sleeps("0-999999", 0);
        sleeps("0-1", 0);
        sleeps("0", 0);
        sleeps("1", 1);
        sleeps("599", 599);
        sleeps("600", 600);
        sleeps("601", 600);
        sleeps("999999", 600);
        sleeps(P, 600);
        sleeps("0-" + P, 0);
        sleeps("65536*65536", 600);
        sleeps("65536*65536+1", 600);
        sleeps("32768*65536", 600);
    }

    private static void deepest() {
        Bank.sentence("Terms 2: SLEEP: of a law as deep as one can be, each sum and product waiting");
        String inner = "1+2*min(1,1+2*min(1,1+2*min(1,1+2*3)))";
        sleeps(inner, 3);
        sleeps("500-1*min(900,200-1*min(900,300-1*min(900,400-1*40)))", 240);
        sleeps("9-1*if 2 less 1 then 0 else if 2 less 1 then 0 else if 2 less 1 then 0 else 4", 5);
        sleeps("9-1*if 1 less 2 then if 1 less 2 then if 1 less 2 then 4 else 0 else 0 else 0", 5);
        sleeps("9-1*if if if 1 less 2 then 3 else 0 less 4 then 5 else 0 less 6 then 7 else 0", 2);
        sleeps("9-1*if 0 less if 0 less if 0 less 1 then 2 else 3 then 4 else 5 then 6 else 8", 3);
        sleeps("1+2*(1+2*(1+2*(1+2*3)))", 63);
        sleeps("1-2*(1-2*(1-2*(1-2*3)))", 43);
    }

    private static void interestIsCut() {
        Bank.sentence("Terms 2: CENTS more by CENTS times PAYS of its KIND by 120,000, cut");
        Bank bank = Bank.told(A + "pays savings 1;pays wages 999;");
        int[] kinds = {SAVINGS, SAVINGS, SAVINGS, SAVINGS, WAGES, WAGES, WAGES, BOX, SAVINGS};
        int[] cents = {119_999, 120_000, 239_999, 240_000, 120, 121, 99_000_000, MOST, 0};
        int[] more = {0, 1, 1, 2, 0, 1, 824_175, 0, 0};
        for (int i = 0; i < kinds.length; i++) {
            bank.it.open(kinds[i], Bank.NONE, Bank.NONE, cents[i]);
        }
        bank.it.months(1);
        long credited = 0;
        for (int i = 0; i < kinds.length; i++) {
            Bank.same("cents of " + i, bank.it.account(i, 3), cents[i] + more[i]);
            credited += more[i];
        }
        Bank.same("credited", bank.it.books(1), credited);
        bank.it.months(1);
        Bank.same("of what it is by then", bank.it.account(3, 3), 240_004);
        Bank.same("nothing of nothing", bank.it.account(8, 3), 0);
    }

    private static void interestUpToTheMost() {
        Bank.sentence("Terms 2: CENTS more .. (no more than 100,000,000)");
        int[] cents = {99_174_373, 99_174_374, 99_174_375, MOST - 1, MOST};
        int[] then = {MOST - 1, MOST, MOST, MOST, MOST};
        for (int i = 0; i < cents.length; i++) {
            Bank bank = Bank.told(A + "pays box 999;");
            bank.it.open(BOX, Bank.NONE, Bank.NONE, cents[i]);
            bank.it.months(1);
            Bank.same("cents of " + cents[i], bank.it.account(0, 3), then[i]);
            Bank.same("credited to " + cents[i], bank.it.books(1), then[i] - cents[i]);
            bank.it.months(2);
            Bank.same("never more", bank.it.account(0, 3), MOST);
            Bank.same("brought and credited", bank.it.books(0) + bank.it.books(1), MOST);
        }
    }

    private static void byTheMonthThatIsNext() {
        Bank.sentence("Terms 2: AGE, SINCE are 1 more (by the MONTH that is next); then, if it has a LAND ..");
        String[] laws = {"if age less 3 then 600 else 0", "if since less 3 then 600 else 0", "if cents less 1020 then 600 else 0"};
        for (String law : laws) {
            Bank bank = Bank.told(A + "sleep box a " + law + ";pays box 1;order address;");
            bank.it.open(BOX, 0, Bank.NONE, 1000);
            bank.it.months(2);
            boolean byCents = law.contains("cents");
            Bank.same("awake by " + law, bank.it.account(0, 4), 0);
            if (byCents) {
                bank.it.deposit(0, 20);
            }
            Bank.same("sleep by " + law, bank.it.sleep(0), byCents ? 0 : 600);
            bank.it.months(1);
            Bank.same("written by " + law, bank.it.account(0, 4), 1);
            Bank.same("in the month that is next", bank.it.account(0, 9), 3);
        }
        Bank interest = Bank.told(A + "sleep box a if cents less 120001 then 600 else 0;pays box 1;");
        interest.it.open(BOX, 0, Bank.NONE, 120_000);
        interest.it.open(BOX, 0, Bank.NONE, 119_999);
        interest.it.months(1);
        Bank.same("by the CENTS with the interest", interest.it.account(0, 4), 1);
        Bank.same("without interest", interest.it.account(1, 4), 0);
    }

    private static void sinceNotBelowSleep() {
        Bank.sentence("Terms 2: an AWAKE one with SINCE not below SLEEP is WRITTEN");
        int[] sleeps = {0, 1, 2, 13, 599, 600};
        for (int sleep : sleeps) {
            Bank bank = Bank.told(A + "sleep box a " + sleep + ";");
            bank.it.open(BOX, 0, Bank.NONE, 0);
            int month = Math.max(1, sleep);
            if (month > 1) {
                bank.go(month - 1);
                Bank.same("one below " + sleep, bank.it.account(0, 4), 0);
                Bank.same("no letter", bank.it.account(0, 7), 0);
            }
            bank.it.months(1);
            Bank.same("not below " + sleep, bank.it.account(0, 4), 1);
            Bank.same("one letter", bank.it.account(0, 7), 1);
            Bank.same("its month", bank.it.account(0, 9), month);
        }
        Bank falls = Bank.told(A + "sleep box a if age less 10 then 600 else 2;");
        falls.it.open(BOX, 0, Bank.NONE, 0);
        falls.it.months(9);
        Bank.same("far below", falls.it.account(0, 4), 0);
        falls.it.months(1);
        Bank.same("far above", falls.it.account(0, 9), 10);
    }

    private static void letterCentsAsFarAsThereAre() {
        Bank.sentence("Terms 2: letter cents are taken off, as far as there are");
        int[] prices = {0, 25, 999};
        for (int price : prices) {
            int[] cents = {0, 1, Math.max(0, price - 1), price, price + 1, MOST};
            Bank bank = Bank.told(A + "sleep box a 1;letter " + price + ";");
            long paid = 0;
            for (int one : cents) {
                bank.it.open(BOX, 0, Bank.NONE, one);
                paid += Math.min(one, price);
            }
            bank.it.months(1);
            for (int i = 0; i < cents.length; i++) {
                Bank.same("left of " + cents[i], bank.it.account(i, 3), Math.max(0, cents[i] - price));
                Bank.same("letter to " + i, bank.it.account(i, 7), 1);
            }
            Bank.same("letter cents", bank.it.books(3), paid);
            Bank.same("letters", bank.it.told(7), cents.length);
        }
        Bank interest = Bank.told(A + "sleep box a 1;letter 999;pays box 999;");
        interest.it.open(BOX, 0, Bank.NONE, 991);
        interest.it.months(1);
        Bank.same("the interest is there by then", interest.it.books(3), 999);
        Bank.same("nothing is left", interest.it.account(0, 3), 0);
    }

    private static void waitMonthsOrMore() {
        Bank.sentence("Terms 2: a WRITTEN one that has been so \"wait\" MONTHS or more (in those behind that of its LETTER)");
        int[] waits = {1, 2, 3, 12, 13, 59, 60};
        for (int wait : waits) {
            int due = 5 + wait;
            for (int report = due - 1; report <= due + 1; report++) {
                Bank bank = Bank.told("land a " + report % 12 + " 0 0 1;sleep box a 5;wait " + wait + ";");
                bank.it.open(BOX, 0, Bank.NONE, 7);
                int month = report < due ? report + 12 : report;
                Bank.same("not yet, wait " + wait, bank.go(month - 1), 0);
                Bank.same("written since", bank.it.account(0, 9), 5);
                Bank.same("in month " + month + ", wait " + wait, bank.it.months(1), 1);
                Bank.same("the row's month", bank.it.row(0, 0), month);
            }
        }
        Bank contact = Bank.told("land a 9 0 0 1;sleep box a 5;wait 4;");
        contact.it.open(BOX, 0, Bank.NONE, 7);
        contact.it.months(8);
        contact.it.contact(0);
        Bank.same("a contact starts all anew", contact.it.months(12), 0);
        Bank.same("the latest letter counts", contact.it.account(0, 9), 13);
        Bank.same("handed in month 21", contact.it.months(1), 1);
    }

    private static void waitNone() {
        Bank.sentence("Terms 2: an AWAKE one .. is WRITTEN; else a WRITTEN one ..: not both in one MONTH");
        for (int wait = 0; wait <= 1; wait++) {
            Bank bank = Bank.told("land a 1 0 0 1;land b 2 0 0 1;sleep box a 0;sleep box b 0;wait " + wait + ";");
            bank.it.open(BOX, 0, Bank.NONE, 7);
            bank.it.open(BOX, 1, Bank.NONE, 7);
            Bank.same("in the month of the letter, wait " + wait, bank.it.months(1), 0);
            Bank.same("letters", bank.it.told(7), 2);
            Bank.same("in the next month, wait " + wait, bank.it.months(1), 1);
            Bank.same("to b", bank.it.row(0, 2), 1);
            Bank.same("a year on", bank.it.months(10), 0);
            Bank.same("in month 13", bank.it.months(1), 1);
        }
    }

    private static void monthModulo12() {
        Bank.sentence("Terms 2: if MONTH (the next one) is the LAND's MONTH modulo 12");
        for (int report = 0; report < 12; report++) {
            Bank bank = Bank.told("land a " + report + " 0 0 1;sleep box a 1;wait 0;");
            bank.it.open(BOX, 0, Bank.NONE, 7);
            int month = report < 2 ? report + 12 : report;
            bank.it.months(month - 1);
            Bank.same("ahead of month " + month, bank.it.told(6), 0);
            bank.it.months(1);
            Bank.same("in month " + month, bank.it.told(6), 1);
            bank.it.open(BOX, 0, Bank.NONE, 7);
            Bank.same("a year later", bank.it.months(11), 0);
            Bank.same("in month " + (month + 12), bank.it.months(1), 1);
            Bank.same("the row's month", bank.it.row(1, 0), month + 12);
        }
    }

    private static void rowOfTheBook() {
        Bank.sentence("Terms 2: HANDED over: CENTS go there (a row of the book: MONTH, ACCOUNT, LAND, CENTS)");
        Bank bank = Bank.told("land a 2 5 0 1;land b 2 0 0 1;sleep box a 1;sleep box b 1;wait 0;letter 1;");
        bank.it.open(BOX, 0, Bank.NONE, 6);
        bank.it.open(BOX, 1, Bank.NONE, 1);
        bank.it.open(BOX, 1, Bank.NONE, MOST);
        bank.it.open(BOX, 0, Bank.NONE, 5);
        bank.refuses("no row yet", Bank.NO_SUCH, () -> bank.it.row(0, 0));
        Bank.same("four", bank.it.months(2), 4);
        int[][] want = {{2, 0, 0, 5, 0}, {2, 1, 1, 0, 0}, {2, 2, 1, MOST - 1, 0}, {2, 3, 0, 4, 1}};
        for (int k = 0; k < want.length; k++) {
            for (int what = 0; what < 5; what++) {
                Bank.same("row(" + k + ", " + what + ")", bank.it.row(k, what), want[k][what]);
            }
        }
        Bank.same("a holds", bank.it.purse(0, 0), 9);
        Bank.same("b holds", bank.it.purse(1, 0), MOST - 1);
        Bank.same("no more with the bank", bank.it.books(4), 0);
        bank.refuses("no fifth row", Bank.NO_SUCH, () -> bank.it.row(4, 0));
    }

    private static void centsBelowLeast() {
        Bank.sentence("Terms 2: CENTS below LEAST are HANDED likewise, but NAMELESS");
        int[] leasts = {0, 1, 500, 9_999};
        for (int least : leasts) {
            Bank bank = Bank.told("land a 0 " + least + " 0 1;land b 0 9999 0 1;sleep box a 1;sleep box b 1;");
            int[] cents = {0, Math.max(0, least - 1), least, least + 1};
            for (int one : cents) {
                bank.it.open(BOX, 0, 1, one);
            }
            Bank.same("all handed", bank.it.months(12), 4);
            for (int i = 0; i < cents.length; i++) {
                int nameless = cents[i] < least ? 1 : 0;
                Bank.same(cents[i] + " nameless, least " + least, bank.it.account(i, 10), nameless);
                Bank.same(cents[i] + " in the row, least " + least, bank.it.row(i, 4), nameless);
                Bank.same(cents[i] + " in worth, least " + least, bank.it.worth(i, 0), nameless == 1 ? Bank.NONE : cents[i]);
            }
        }
        Bank letter = Bank.told("land a 0 500 0 1;sleep box a 1;letter 1;");
        letter.it.open(BOX, 0, Bank.NONE, 500);
        letter.it.open(BOX, 0, Bank.NONE, 501);
        letter.it.months(12);
        Bank.same("below it by the letter", letter.it.account(0, 10), 1);
        Bank.same("not below it with the letter", letter.it.account(1, 10), 0);
    }

    private static void withoutALand() {
        Bank.sentence("Terms 2: one without a LAND stays as it is");
        Bank bank = Bank.told(A + "sleep box a 1;order address;wait 0;pays box 100;");
        bank.it.open(BOX, Bank.NONE, 0, 1200);
        bank.it.open(BOX, 0, 0, 1200);
        bank.it.open(SAVINGS, 0, 0, 1200);
        bank.it.months(1);
        bank.it.address(1, Bank.NONE);
        Bank.same("none is handed", bank.it.months(23), 0);
        int[] states = {0, 1, 0};
        for (int i = 0; i < 3; i++) {
            Bank.same("state of " + i, bank.it.account(i, 4), states[i]);
            Bank.same("age of " + i, bank.it.account(i, 5), 24);
            Bank.same("since of " + i, bank.it.account(i, 6), 24);
            Bank.same("cents of " + i, bank.it.account(i, 3), i == 2 ? 1200 : 1224);
            Bank.same("soon of " + i, bank.it.soon(i), Bank.NONE);
        }
        Bank.same("letters", bank.it.told(7), 1);
        bank.it.address(1, 0);
        Bank.same("handed with a land in its month", bank.it.months(12), 1);
    }

    private static void contact() {
        Bank.sentence("Terms 2: CONTACT: an AWAKE or WRITTEN one: SINCE is 0, it is AWAKE");
        for (int behind = 0; behind <= 6; behind += 6) {
            Bank bank = Bank.told(A + "sleep box a 5;");
            bank.it.open(BOX, 0, Bank.NONE, 2000);
            bank.go(behind);
            int letters = behind < 5 ? 0 : 1;
            int letterMonth = behind < 5 ? Bank.NONE : 5;
            Bank.same("state", bank.it.account(0, 4), letters);
            Bank with = bank.twin();
            Bank.same("contact", with.it.contact(0), behind);
            tells(with, 0, BOX, 0, Bank.NONE, 2000, 0, behind, 0, letters, 0, letterMonth, 0);
            Bank brought = bank.twin();
            Bank.same("deposit", brought.it.deposit(0, 1), 2001);
            tells(brought, 0, BOX, 0, Bank.NONE, 2001, 0, behind, 0, letters, 0, letterMonth, 0);
            Bank taken = bank.twin();
            Bank.same("draw", taken.it.draw(0, 2000), 0);
            tells(taken, 0, BOX, 0, Bank.NONE, 0, 0, behind, 0, letters, 0, letterMonth, 0);
            Bank moved = bank.twin();
            Bank.same("address", moved.it.address(0, 0), 0);
            tells(moved, 0, BOX, 0, Bank.NONE, 2000, letters, behind, behind, letters, 0, letterMonth, 0);
        }
    }

    /** Boxes of these cents, opened at a's address, born in b, handed to a in month 12. */
    private static Bank handed(String a, String b, int... cents) {
        Bank bank = Bank.told("land a 0 " + a + ";land b 0 " + b + ";sleep box a 1;sleep box b 1;order address birth;");
        for (int one : cents) {
            bank.it.open(BOX, 0, 1, one);
        }
        Bank.same("handed", bank.it.months(12), cents.length);
        return bank;
    }

    private static void holds() {
        Bank.sentence("Terms 2: a LAND HOLDS what was HANDED to it and not claimed, not passed on");
        Bank bank = handed("0 0 1", "0 0 1", 100, 20, 3);
        Bank.same("all", bank.it.purse(0, 0), 123);
        Bank.same("all bits", bank.it.land(0, 5), 7);
        bank.it.claim(0);
        Bank.same("not the claimed", bank.it.purse(0, 0), 23);
        Bank.same("its bit", bank.it.land(0, 5), 6);
        bank.it.address(1, 1);
        Bank.same("still holds", bank.it.purse(0, 0), 23);
        bank.it.pass(1);
        Bank.same("not the passed on", bank.it.purse(0, 0), 3);
        Bank.same("its bit", bank.it.land(0, 5), 4);
        Bank.same("b holds", bank.it.purse(1, 0), 20);
        Bank.same("b's bit", bank.it.land(1, 5), 2);
        bank.it.claim(1);
        bank.it.claim(2);
        Bank.same("nothing left", bank.it.purse(0, 0) + bank.it.purse(1, 0) + bank.it.books(5), 0);
        Bank.same("no bits left", bank.it.land(0, 5) + bank.it.land(1, 5), 0);
    }

    private static void wholeMonths() {
        Bank.sentence("Terms 2: CLAIM: of each whole MONTH since it was HANDED");
        Bank bank = handed("0 100 50", "0 0 1", 120_000);
        for (int months = 0; months < 14; months++) {
            Bank.same("worth behind " + months, bank.it.worth(0, 0), 120_000 + 100 * months);
            Bank.same("claim behind " + months, bank.twin().it.claim(0), 120_000 + 100 * months);
            bank.it.months(1);
        }
    }

    private static void twelveTimesYears() {
        Bank.sentence("Terms 2: CLAIM: of no more than 12 times YEARS");
        for (int years : new int[] {1, 2, 50}) {
            Bank bank = handed("0 999 " + years, "0 0 1", MOST);
            long most = MOST + 832_500L * 12 * years;
            Bank.same("a month less", bank.it.worth(0, 12 * years - 1), most - 832_500);
            Bank.same("just so many", bank.it.worth(0, 12 * years), most);
            Bank.same("a month more", years == 50 ? most : bank.it.worth(0, 12 * years + 1), most);
            bank.go(12 * years - 1);
            Bank.same("claimed a month less", bank.twin().it.claim(0), most - 832_500);
            bank.it.months(1);
            Bank.same("claimed just so many", bank.twin().it.claim(0), most);
            bank.it.months(1);
            Bank.same("claimed a month more", bank.twin().it.claim(0), most);
            bank.it.claim(0);
            Bank.same("interest paid", bank.it.purse(0, 1), most - MOST);
        }
    }

    private static void claimIsCut() {
        Bank.sentence("Terms 2: CLAIM: CENTS times RATE times MONTHS by 120,000, cut");
        Bank bank = handed("0 1 50", "0 0 1", 119_999, 120_000, 60_000, 59_999, 0, 239_999);
        int[] one = {0, 1, 0, 0, 0, 1};
        int[] two = {1, 2, 1, 0, 0, 3};
        int[] cents = {119_999, 120_000, 60_000, 59_999, 0, 239_999};
        for (int i = 0; i < cents.length; i++) {
            Bank.same("none of " + cents[i], bank.it.worth(i, 0), cents[i]);
            Bank.same("one month of " + cents[i], bank.it.worth(i, 1), cents[i] + one[i]);
            Bank.same("two months of " + cents[i], bank.it.worth(i, 2), cents[i] + two[i]);
        }
        bank.it.months(2);
        for (int i = 0; i < cents.length; i++) {
            Bank.same("claim of " + cents[i], bank.it.claim(i), cents[i] + two[i]);
        }
        Bank.same("interest paid", bank.it.purse(0, 1), 7);
        Bank none = handed("0 0 50", "0 0 1", MOST);
        none.it.months(120);
        Bank.same("rate 0", none.it.claim(0), MOST);
    }

    private static void interestIsBesides() {
        Bank.sentence("Terms 2: it is CLAIMED, the LAND HOLDS CENTS less (its INTEREST is paid besides)");
        Bank bank = handed("0 600 5", "0 0 1", 20_000, 4_000);
        bank.it.months(3);
        Bank.same("back", bank.it.claim(0), 20_300);
        Bank.same("held", bank.it.purse(0, 0), 4_000);
        Bank.same("paid besides", bank.it.purse(0, 1), 300);
        Bank.same("claimed without it", bank.it.books(6), 20_000);
        tells(bank, 0, BOX, 0, 1, 0, 3, 12, 12, 1, Bank.NONE, 1, 0);
        bank.refuses("a second claim", Bank.STATE, () -> bank.it.claim(0));
        bank.refuses("passing on the claimed", Bank.STATE, () -> bank.it.pass(0));
    }

    private static void passedOn() {
        Bank.sentence("Terms 2: PASSED ON, if its LAND, as it is told now, is another one than that which HOLDS it");
        Bank bank = handed("0 0 1", "0 0 1", 100, 7);
        bank.refuses("the same", Bank.STATE, () -> bank.it.pass(0));
        bank.it.address(0, Bank.NONE);
        Bank.same("by its birth", bank.it.pass(0), 1);
        bank.refuses("the same again", Bank.STATE, () -> bank.it.pass(0));
        bank.it.address(0, 0);
        Bank.same("back", bank.it.pass(0), 0);
        Bank.same("to a", bank.it.purse(0, 3), 100);
        Bank.same("to b", bank.it.purse(1, 3), 100);
        Bank.same("a holds", bank.it.land(0, 5), 3);
        Bank home = Bank.told(lands(3) + "sleep box a 1;sleep box c 1;home c;order address home;");
        home.it.open(BOX, 0, 1, 5);
        home.it.open(BOX, 1, 1, 5);
        home.it.months(12);
        home.it.address(0, 1);
        Bank.same("b takes none, so by the home", home.it.pass(0), 2);
        home.refuses("held by the home", Bank.STATE, () -> home.it.pass(1));
        Bank none = Bank.told(A + "land b 0 0 0 1;sleep box a 1;order address;");
        none.it.open(BOX, 0, 0, 5);
        none.it.months(12);
        none.it.address(0, 1);
        none.refuses("a land that takes none", Bank.STATE, () -> none.it.pass(0));
        none.it.address(0, Bank.NONE);
        none.refuses("no land", Bank.STATE, () -> none.it.pass(0));
    }

    private static void namelessPassedOn() {
        Bank.sentence("Terms 2: PASSED ON: NAMELESS too; a NAMELESS one stays so");
        Bank bank = handed("500 0 1", "0 0 1", 499, 500);
        for (int i = 0; i < 2; i++) {
            bank.it.address(i, 1);
            Bank.same("passed on", bank.it.pass(i), 1);
            Bank.same("nameless", bank.it.account(i, 10), 1 - i);
        }
        bank.refuses("no claim of b", Bank.STATE, () -> bank.it.claim(0));
        Bank.same("no worth at b", bank.it.worth(0, 0), Bank.NONE);
        Bank.same("b holds", bank.it.purse(1, 0), 999);
        Bank low = handed("0 0 1", "9999 0 1", 5);
        low.it.address(0, 1);
        low.it.pass(0);
        Bank.same("not nameless by b's LEAST", low.it.account(0, 10), 0);
        Bank.same("so it is claimed", low.it.claim(0), 5);
    }

    private static void sinceHandedFirst() {
        Bank.sentence("Terms 2: PASSED ON: since the MONTH in which it was HANDED first");
        Bank bank = handed("0 100 1", "0 200 2", 120_000);
        bank.it.months(20);
        Bank.same("a's rate and years", bank.it.worth(0, 0), 121_200);
        bank.it.address(0, 1);
        bank.it.pass(0);
        Bank.same("b's rate and years, all the months", bank.it.worth(0, 0), 124_000);
        Bank.same("a month more", bank.it.worth(0, 4), 124_800);
        Bank.same("not more than b's years", bank.it.worth(0, 5), 124_800);
        Bank.same("claimed", bank.it.claim(0), 124_000);
        Bank.same("b paid", bank.it.purse(1, 1), 4_000);
        Bank.same("a paid nothing", bank.it.purse(0, 1), 0);
        Bank.same("the row", bank.it.row(0, 2), 0);
    }
}
