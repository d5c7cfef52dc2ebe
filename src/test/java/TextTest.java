/** Promises 1 to 4: a new object, the tape, the text with its faults and their places. */
public final class TextTest extends TextCase {
    public static void main(String[] args) {
        newObject();
        feeding();
        wholeText();
        untold();
        eachKind();
        telling();
        manyTexts();
        tapeOfAText();
        firstBytesOnly();
        cannotStand();
        textEndsTooEarly();
        wordsOfTheLanguage();
        longWords();
        onceEach();
        orders();
        numbers();
        names();
        sixthLand();
        fourthLevel();
        secondLaws();
        noLand();
        firstOfSeveral();
        blanks();
        tokens();
        faultyTextChangesNothing();
        Bank.end("TextTest");
    }

    private static void newObject() {
        IdleMoney x = new IdleMoney();
        int[] want = {0, 0, 0, 3, 0, Bank.NONE, 0, 0, 0, 0};
        for (int what = 0; what < 10; what++) {
            Bank.same("new: told(" + what + ")", x.told(what), want[what]);
        }
        for (int kind = 0; kind < 5; kind++) {
            Bank.same("new: pays(" + kind + ")", x.pays(kind), 0);
        }
        for (int what = 0; what < 7; what++) {
            Bank.same("new: books(" + what + ")", x.books(what), 0);
        }
        for (int what = 0; what < 3; what++) {
            Bank.same("new: status(" + what + ")", x.status(what), 0);
        }
        Bank.same("new: fault()", x.fault(), Bank.NONE);
        Bank.same("new: print()", x.print(), 0);
        Bank.same("new: undo()", x.undo(), Bank.NONE);
        Bank.same("new: ahead", x.ahead(Bank.NONE, 120), 0);
        Bank.same("new: letters", x.letters(120), 0);
        Bank.same("new: rescue", x.rescue(3, 120, 0), 0);
        Bank.same("NONE", IdleMoney.NONE, -1);
    }

    private static void feeding() {
        Bank bank = new Bank();
        for (int i = 1; i <= 30; i++) {
            Bank.same("feed " + i, bank.it.feed(-1, i, 0, Integer.MIN_VALUE, 7), 20 * i);
            Bank.same("told(8) " + i, bank.it.told(8), 20 * i);
        }
        Bank.same("feed 31", bank.it.feed(1, 2, 3, 4, 5), Bank.NONE);
        Bank.same("told(8) stays", bank.it.told(8), 600);
        bank.it.text(0);
        Bank.same("told(8) empty", bank.it.told(8), 0);
        Bank.same("feed anew", bank.it.feed(0, 0, 0, 0, 0), 20);
    }

    private static void wholeText() {
        Bank bank = Bank.told("land ax 3 500 600 2;land longer 11 9999 999 50;sleep savings ax 12;"
                + "sleep box ax 7;sleep cheque longer 6;pays savings 120;pays box 999;letter 25;wait 60;"
                + "home longer;order birth home;");
        int[][] want = {{3, 500, 600, 2, 17, 0}, {11, 9999, 999, 50, 8, 0}};
        for (int land = 0; land < 2; land++) {
            for (int what = 0; what < 6; what++) {
                Bank.same("land(" + land + ", " + what + ")", bank.it.land(land, what), want[land][what]);
            }
        }
        int[] pays = {120, 0, 0, 0, 999};
        for (int kind = 0; kind < 5; kind++) {
            Bank.same("pays(" + kind + ")", bank.it.pays(kind), pays[kind]);
        }
        int[] told = {2, 0, 0, 60, 25, 1, 0, 0, 0, 1};
        for (int what = 0; what < 10; what++) {
            Bank.same("told(" + what + ")", bank.it.told(what), told[what]);
        }
        Bank.same("letter(0, 0)", bank.it.letter(0, 0), 'a');
        Bank.same("letter(0, 1)", bank.it.letter(0, 1), 'x');
        for (int i = 0; i < 6; i++) {
            Bank.same("letter(1, " + i + ")", bank.it.letter(1, i), "longer".charAt(i));
        }
    }

    private static void untold() {
        Bank bank = Bank.told("land a 0 0 0 1;land b 0 0 0 1;");
        Bank.same("wait untold", bank.it.told(3), 3);
        Bank.same("letter untold", bank.it.told(4), 0);
        Bank.same("home untold", bank.it.told(5), 0);
        Bank.same("pays untold", bank.it.pays(2), 0);
        Bank.same("no kinds", bank.it.land(0, 4), 0);
        Bank zero = Bank.told("wait 0;letter 0;land a 0 0 0 1;home a;pays wages 0;");
        Bank.same("wait 0", zero.it.told(3), 0);
        Bank.same("letter 0", zero.it.told(4), 0);
        Bank.same("pays 0", zero.it.pays(1), 0);
    }

    private static void eachKind() {
        String[] words = {"savings", "wages", "shares", "cheque", "box"};
        for (int kind = 0; kind < 5; kind++) {
            Bank bank = Bank.told("land a 0 0 0 1;sleep " + words[kind] + " a 7;pays " + words[kind] + " 12;");
            Bank.same("takes " + words[kind], bank.it.land(0, 4), 1 << kind);
            for (int other = 0; other < 5; other++) {
                Bank.same(words[kind] + " pays", bank.it.pays(other), other == kind ? 12 : 0);
                bank.it.open(other, 0, Bank.NONE, 0);
                Bank.same(words[kind] + " sleeps", bank.it.sleep(other), other == kind ? 7 : Bank.NONE);
            }
        }
    }

    /** What an earlier text left behind is not read. */
    private static void manyTexts() {
        Bank bank = new Bank();
        Bank.same("a word behind a word", bank.tell("wait box;"), -9);
        Bank.same("ends where the word was", bank.tell("pays"), -9);
        Bank.same("its place", bank.it.fault(), 4);
        bank.tell("wait box;");
        bank.feed("pays box 1;" + A);
        Bank.same("ends where a word goes on behind it", bank.it.text(5), -9);
        Bank.same("its place", bank.it.fault(), 5);
        Bank.same("a letter for a number", bank.tell("home letters letters letters letters"), -9);
        Bank.same("ends ahead of a name", bank.tell("land"), -9);
        Bank.same("its place", bank.it.fault(), 4);
        for (int i = 0; i < 9; i++) {
            StringBuilder text = new StringBuilder(A + "sleep box a " + i);
            while (text.length() < 590) {
                text.append("+1");
            }
            Bank.same("a long text", bank.tell(text + ";"), 1);
            bank.it.open(4, 0, Bank.NONE, 0);
            Bank.same("its law", bank.it.sleep(0), i + (text.length() - 28) / 2);
        }
    }

    private static void telling() {
        Bank bank = Bank.told("land a 1 9 100 5;land b 1 0 100 5;sleep box a 1;sleep box b 1;letter 5;wait 0;"
                + "pays box 500;");
        for (int i = 0; i < 4; i++) {
            bank.it.open(4, i % 2, Bank.NONE, 500_000);
        }
        bank.it.open(4, 0, Bank.NONE, 1);
        bank.it.draw(0, 1);
        bank.it.months(13);
        bank.it.address(0, 1);
        bank.it.pass(0);
        bank.it.address(1, 0);
        bank.it.pass(1);
        bank.it.months(13);
        for (int i = 0; i < 4; i++) {
            Bank.holds("interest", bank.it.claim(i) > 500_000);
        }
        Bank.same("nameless", bank.it.account(4, 10), 1);
        bank.refuses("open", Bank.ARGUMENT, () -> bank.it.open(9, 0, 0, 0));
        Bank.same("text anew", bank.tell("land b 2 0 0 1;land c 0 0 0 1;"), 2);
        int[] told = {2, 0, 0, 3, 0, 0, 0, 0, 0, 8};
        for (int what = 0; what < 10; what++) {
            Bank.same("anew: told(" + what + ")", bank.it.told(what), told[what]);
        }
        for (int what = 0; what < 7; what++) {
            Bank.same("anew: books(" + what + ")", bank.it.books(what), 0);
        }
        for (int what = 0; what < 4; what++) {
            Bank.same("anew: purse(0, " + what + ")", bank.it.purse(0, what), 0);
            Bank.same("anew: purse(1, " + what + ")", bank.it.purse(1, what), 0);
        }
        Bank.same("anew: kinds", bank.it.land(0, 4), 0);
        Bank.same("anew: print()", bank.it.print(), 0);
        Bank.same("status goes on", bank.it.status(1), 1);
        bank.refuses("row", Bank.NO_SUCH, () -> bank.it.row(0, 0));
        bank.refuses("account", Bank.NO_SUCH, () -> bank.it.account(0, 0));
        int[] fresh = {3, Bank.NONE, Bank.NONE, 60, 0, 0, 0, 0, Bank.NONE, Bank.NONE, 0};
        for (int i = 0; i < 5; i++) {
            bank.it.open(3, Bank.NONE, Bank.NONE, 60);
            for (int what = 0; what < fresh.length; what++) {
                Bank.same("anew: account(" + i + ", " + what + ")", bank.it.account(i, what), fresh[what]);
            }
        }
        int[] books = {300, 0, 0, 0, 300, 0, 0};
        for (int what = 0; what < books.length; what++) {
            Bank.same("anew, opened: books(" + what + ")", bank.it.books(what), books[what]);
        }
    }

    private static void tapeOfAText() {
        Bank bank = new Bank();
        bank.feed(A);
        bank.refuses("text(-1)", Bank.ARGUMENT, () -> bank.it.text(-1));
        bank.refuses("text(21)", Bank.ARGUMENT, () -> bank.it.text(21));
        bank.refuses("text(least)", Bank.ARGUMENT, () -> bank.it.text(Integer.MIN_VALUE));
        Bank.same("the tape stays", bank.it.told(8), 20);
        Bank.same("a refused text leaves fault()", bank.it.fault(), Bank.NONE);
        Bank.same("text(20) with bytes 0", bank.it.text(20), 1 - 10);
        Bank.same("its place", bank.it.fault(), A.length());
        Bank.same("empty behind a fault", bank.it.told(8), 0);
        bank.refuses("text(1) of nothing", Bank.ARGUMENT, () -> bank.it.text(1));
        Bank.same("fault() stays by a refusal", bank.it.fault(), A.length());
        bank.feed(A);
        Bank.same("text(15)", bank.it.text(15), 1);
        Bank.same("empty behind a text", bank.it.told(8), 0);
        Bank.same("no fault", bank.it.fault(), Bank.NONE);
    }

    private static void firstBytesOnly() {
        Bank bank = new Bank();
        bank.feed(A + "land b 0 0 0 1;land c 0 0 0 1;");
        Bank.same("the first 30 bytes", bank.it.text(30), 2);
        StringBuilder longest = new StringBuilder(A);
        while (longest.length() < 600) {
            longest.append(' ');
        }
        Bank.same("600 bytes", new Bank().tell(longest.toString()), 1);
        longest.setCharAt(599, ';');
        fault(longest.toString(), 1, 599);
        fault(longest.toString().replace(' ', '+'), 1, 4);
        fault(longest.toString().replaceAll("(?s).", "1 ").substring(0, 600), 1, 0);
        fault(longest.toString().replaceAll("(?s).", ";"), 1, 0);
        StringBuilder ones = new StringBuilder("land a 0 0 0 1;sleep box a 0");
        while (ones.length() < 598) {
            ones.append("+1");
        }
        ones.append("+;".substring(ones.length() - 598));
        ones.setLength(599);
        ones.setCharAt(598, ';');
        Bank bank2 = Bank.told(ones.toString());
        bank2.it.open(4, 0, Bank.NONE, 0);
        Bank.same("a law of 570 bytes", bank2.it.sleep(0), 285);
    }

    private static void cannotStand() {
        fault(";", 1, 0);
        fault(A + ";", 1, 15);
        fault(A + "  x 1;", 1, 17);
        fault(A + "5;", 1, 15);
        fault(A + "a;", 1, 15);
        fault(A + "box;", 1, 15);
        fault("Land a 0 0 0 1;", 1, 0);
        fault("land A 0 0 0 1;", 1, 5);
        fault("land\ta 0 0 0 1;", 1, 4);
        fault("land a 0 0 0 1;\n", 1, 15);
        fault("land a 0 0 0 1;" + (char) 0, 1, 15);
        fault("land a 0 0 0 1;" + (char) 255, 1, 15);
        fault("land " + (char) ('a' + 128) + " 0 0 0 1;", 1, 5);
        fault("land 5 0 0 0 1;", 1, 5);
        fault("land a b 0 0 1;", 1, 7);
        fault("land a 0 -1 0 1;", 1, 9);
        fault("land a 0 0 0 1 1;", 1, 15);
        fault("land a 0 0 0;", 1, 12);
        fault("land a 0 0 0 1,", 1, 14);
        fault("landa 0 0 0 1;", 1, 0);
        fault("mand a 0 0 0 1;", 1, 0);
        fault("lanx a 0 0 0 1;", 1, 0);
        fault("land;", 1, 4);
        fault("land a;", 1, 6);
        fault("land a 0;", 1, 8);
        fault("land a 0 0;", 1, 10);
        fault(A + "sleep;", 1, 20);
        fault(A + "sleep box;", 1, 24);
        fault(A + "sleep fox a 1;", 1, 21);
        fault(A + "pays;", 1, 19);
        fault(A + "pays box;", 1, 23);
        fault(A + "letter;", 1, 21);
        fault(A + "sleep a a 1;", 1, 21);
        fault(A + "sleep 1 a 1;", 1, 21);
        fault(A + "sleep land a 1;", 1, 21);
        fault(A + "sleep box 1 1;", 1, 25);
        fault(A + "sleep box ; 1;", 1, 25);
        fault(A + "pays a 1;", 1, 20);
        fault(A + "pays box a;", 1, 24);
        fault(A + "wait a;", 1, 20);
        fault(A + "wait ;", 1, 20);
        fault(A + "letter -1;", 1, 22);
        fault(A + "letters 1;", 1, 15);
        fault(A + "home 0;", 1, 20);
        fault(A + "home;", 1, 19);
        law("", 1, 0);
        law("(", 1, 1);
        law("min", 1, 3);
        law("min(", 1, 4);
        law("min(1", 1, 5);
        law("min(1,", 1, 6);
        law("min(1,2", 1, 7);
        law("if", 1, 2);
        law("if 1", 1, 4);
        law("if 1 less", 1, 9);
        law("if 1 less 2", 1, 11);
        law("if 1 less 2 then", 1, 16);
        law("if 1 less 2 then 3 else", 1, 23);
        law("x", 1, 0);
        law("a", 1, 0);
        law("-1", 1, 0);
        law("+1", 1, 0);
        law("1+", 1, 2);
        law("1 2", 1, 2);
        law("1 cents", 1, 2);
        law("1*-1", 1, 2);
        law("(1", 1, 2);
        law("()", 1, 1);
        law("1)", 1, 1);
        law("min 1", 1, 4);
        law("min(1)", 1, 5);
        law("min(1,2,3)", 1, 7);
        law("(1,2)", 1, 2);
        law("if 1+1 less 2 then 3 else 4", 1, 4);
        law("if 1 then 2 else 3", 1, 5);
        law("if 1 less 2 else 3", 1, 12);
        law("if 1 less 2 then 3", 1, 18);
        law("if if less 2 then 3 else 4", 1, 6);
        law("less", 1, 0);
        law("month", 1, 0);
        law("landing", 1, 0);
        law("1%2", 1, 1);
        law("1;1", 1, 2);
    }

    private static void textEndsTooEarly() {
        String whole = "land a 0 0 0 1;sleep box a min(1,if 2 less 3 then 4 else 5);order home;";
        int[] ends = {4, 6, 8, 10, 12, 14, 20, 24, 26, 30, 31, 32, 33, 35, 37, 42, 44, 49, 51, 56, 58, 59, 65, 70};
        for (int end : ends) {
            fault(whole.substring(0, end), 1, end);
            fault(whole.substring(0, end) + "  ", 1, end + 2);
        }
        fault("order home", 1, 10);
        fault("home", 1, 4);
    }

    private static void wordsOfTheLanguage() {
        String[] words = {"land", "sleep", "pays", "wait", "letter", "home", "order", "address", "birth", "cents",
            "age", "since", "letters", "min", "if", "less", "then", "else", "savings", "wages", "shares", "cheque",
            "box"};
        for (String word : words) {
            fault("land " + word + " 0 0 0 1;", 1, 5);
            fault(A + "home " + word + ";", 1, 20);
            fault(A + "sleep box " + word + " 1;", 1, 25);
            boolean begins = "land sleep pays wait letter home order".contains(word) && !word.equals("if");
            if (!begins) {
                fault(word + " 1;", 1, 0);
            }
        }
        String[] names = {"lands", "slee", "saving", "i", "months", "rate", "homes", "nn", "boxes", "el"};
        for (String name : names) {
            stands("land " + name + " 0 0 0 1;sleep savings " + name + " 1;home " + name + ";");
        }
    }

    private static void longWords() {
        fault("land abcdefg 0 0 0 1;", 1, 5);
        stands("land abcdef 0 0 0 1;");
        fault(A + "sleep box abcdefg 1;", 1, 25);
        fault(A + "sleep box abcdef 1;", 3, 25);
        fault(A + "home abcdefg;", 1, 20);
        fault(A + "sleepsleepsleep;", 1, 15);
    }

    private static void onceEach() {
        fault(A + "wait 1;wait 1;", 1, 22);
        fault(A + "letter 1;letter 1;", 1, 24);
        fault(A + "home a;home a;", 1, 22);
        fault(A + "order home; order home;", 1, 27);
        fault("wait 0;wait 0;" + A, 1, 7);
        fault("letter 0;letter 0;" + A, 1, 9);
        stands(A + "wait 1;letter 1;home a;order home;pays box 1;pays wages 1;");
    }

    private static void orders() {
        stands(A + "order home;");
        stands(A + "order birth home address;");
        fault(A + "order;", 1, 20);
        fault(A + "order a;", 1, 21);
        fault(A + "order 1;", 1, 21);
        fault(A + "order home,birth;", 1, 25);
        fault(A + "order home home;", 1, 26);
        fault(A + "order home birth home;", 1, 32);
        fault(A + "order home birth address birth;", 1, 40);
        fault(A + "order home box;", 1, 26);
    }

    private static void numbers() {
        stands("land a 11 9999 999 50;");
        stands("land a 0 0 0 1;");
        fault("land a 12 0 0 1;", 2, 7);
        fault("land a 0 10000 0 1;", 2, 9);
        fault("land a 0 0 1000 1;", 2, 11);
        fault("land a 0 0 0 0;", 2, 13);
        fault("land a 0 0 0 51;", 2, 13);
        fault(A + "pays box 1000;", 2, 24);
        fault(A + "wait 61;", 2, 20);
        fault(A + "letter 1000;", 2, 22);
        law("999999", 0, 0);
        law("1000000", 2, 0);
        law("1+ 1000000", 2, 3);
        law("99999999999999999999999999999999", 2, 0);
        law("4294967296", 2, 0);
        law("00000000000000000000000000000001", 0, 0);
        fault("land a 0000000000000012 0 0 1;", 2, 7);
        stands("land a 0000000000000011 0 0 1;");
        stands(A + "wait 60;letter 999;pays box 999;");
    }

    private static void names() {
        fault(A + "land a 0 0 0 1;", 3, 20);
        fault(A + "land b 0 0 0 1;land a 0 0 0 1;", 3, 35);
        stands(A + "land aa 0 0 0 1;");
        fault("home a;" + A, 3, 5);
        fault("sleep box a 1;" + A, 3, 10);
        fault(A + "home b;", 3, 20);
        fault(A + "home aa;", 3, 20);
        fault(A + "sleep box b 1;", 3, 25);
    }

    private static void sixthLand() {
        StringBuilder text = new StringBuilder();
        for (int i = 0; i < 5; i++) {
            text.append("land ").append((char) ('a' + i)).append(" 0 0 0 1;");
        }
        stands(text.toString());
        fault(text + " land", 4, 76);
        fault(text + "land a 0 0 0 1;", 4, 75);
        fault(text + "land 5;", 4, 75);
        Bank bank = new Bank();
        Bank.same("five lands", bank.tell(text.toString()), 5);
    }

    private static void fourthLevel() {
        law("(((1)))", 0, 0);
        law("((((1))))", 5, 3);
        law("(((1)))+(((1)))", 0, 0);
        law("(((min(1,2))))", 5, 6);
        law("((min(1,2)))", 0, 0);
        law("((min((1),2)))", 5, 6);
        law("((min(1,(2))))", 5, 8);
        law("(((min 1)))", 1, 7);
        law("if 1 less 2 then 3 else if 4 less 5 then 6 else if 7 less 8 then 9 else 1", 0, 0);
        law("if 1 less 2 then 3 else if 4 less 5 then 6 else if 7 less 8 then 9 else if 1 less 2 then 3 else 4", 5, 72);
        law("if if if if 1 less 2 then 3 else 4", 5, 9);
        law("if if if 1 less 2 then 3 else 4 less 5 then 6 else 7 less 8 then 9 else 1", 0, 0);
        law("(if (1) less 2 then 3 else 4)", 0, 0);
        law("if 1 less ((2)) then 3 else 4", 0, 0);
        law("if 1 less (((2))) then 3 else 4", 5, 12);
        law("if 1 less 2 then ((3)) else 4", 0, 0);
        law("if 1 less 2 then (((3))) else 4", 5, 19);
        law("if 1 less 2 then 3 else ((4))", 0, 0);
        law("((if 1 less (2) then 3 else 4))", 5, 12);
        law("((if 1 less 2 then min(3,3) else 4))", 5, 22);
        law("(if ((1)) less 2 then 3 else 4)", 5, 5);
        law("if 1 less 2 then 3 else 4 * (((5)))", 0, 0);
        law("if 1 less 2 then 3 else (((5)))", 5, 26);
        law("(((if 1 less 2 then 3 else 4)))", 5, 3);
        law("1+min((1),min(2,min(3,4)))", 0, 0);
        law("1(((((", 1, 1);
    }

    private static void secondLaws() {
        fault(A + "pays box 1;pays box 1;", 6, 31);
        fault(A + "pays box 1;pays box 9999;", 6, 31);
        fault(A + "pays box 0;pays box;", 6, 31);
        fault(A + "sleep box a 1;sleep box a x;", 6, 39);
        fault(A + "land b 0 0 0 1;sleep box a 1;sleep wages a 1;sleep box b 1;sleep box b 1;", 6, 84);
        stands(A + "land b 0 0 0 1;sleep box a 1;sleep box b 1;sleep wages b 1;");
    }

    private static void noLand() {
        fault("", 7, 0);
        fault("   ", 7, 3);
        fault("wait 1; ", 7, 8);
        fault("pays box 1;order home;letter 3;", 7, 31);
    }

    private static void firstOfSeveral() {
        fault("land a 12 0 0 1;;", 2, 7);
        fault("wait 61;land land", 2, 5);
        fault("home b;land a 12 0 0 1;", 3, 5);
        fault("wait 1", 1, 6);
        fault("sleep box a 1000000;", 3, 10);
    }

    private static void blanks() {
        stands("  land   a   0   0   0   1  ;  ");
        stands("land a 0 0 0 1;sleep box a min(1,2)+if 1less 2then 3else 4;");
        stands("land a 0 0 0 1;sleep box a min ( 1 , 2 ) + ( 3 ) * 4 / 5 - 6 ;");
        fault("la nd a 0 0 0 1;", 1, 0);
        fault("land a 1 0 0 0 1;", 2, 13);
    }

    private static void tokens() {
        stands("land a 0 0 0 1;sleep box a12;");
        fault("land a0 0 0 0 1;", 2, 12);
        stands("land a0 0 0 1;");
        fault("land a 0 0 0 1;sleep box a cents2;", 1, 32);
        fault("land a 0 0 0 1;sleep box a 2cents;", 1, 28);
        fault("land a 0 0 0 1;sleepbox a 1;", 1, 15);
        stands("land a 0 0 0 1;wait1;letter2;pays box3;");
    }

    private static void faultyTextChangesNothing() {
        Bank bank = Bank.told("land a 1 2 3 4;sleep box a 5;wait 7;letter 9;pays box 8;order home;");
        bank.it.open(4, Bank.NONE, Bank.NONE, 77777);
        bank.it.months(9);
        String before = bank.world();
        Bank.same("a faulty text", bank.tell("land b 5 6 7 8;wait 1;sleep box b 3;letter 1;wait 1;"), -9);
        Bank.holds("all but the tape stays", before.equals(bank.world()));
        Bank.same("the fault's place", bank.it.fault(), 45);
        Bank.same("acts", bank.it.told(9), 3);
        Bank.same("undo of months, not of the faulty text", bank.it.undo(), 2);
        Bank.same("month", bank.it.told(2), 0);
        Bank.same("fault() stays by undo", bank.it.fault(), 45);
    }
}
