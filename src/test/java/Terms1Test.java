/** Terms, part 1: each sentence on lands, kinds, texts and faults that names a boundary case. */
public final class Terms1Test extends TextCase {
    public static void main(String[] args) {
        landsFiveAtMost();
        monthOfReports();
        least();
        rate();
        years();
        pays();
        takesAKind();
        bytesOfAText();
        linesNoneOrMany();
        waitMonths();
        letterCents();
        home();
        order();
        onceEach();
        onePaysOfAKind();
        oneSleepOfAKindAndLand();
        lettersOfAName();
        nameNoOtherWord();
        nameToldOnce();
        nameToldAhead();
        kindsWords();
        sums();
        products();
        ifOfFactors();
        minOfTwo();
        numbers();
        lettersOfWords();
        lettersOfEachWord();
        digitsOfNumbers();
        blanks();
        cannotStandAtTheLength();
        linesThatStopShort();
        longWords();
        secondOfOnce();
        numberThatIsNoneSuch();
        names();
        sixthLand();
        fourthLevel();
        secondLaw();
        noLand();
        leastByte();
        firstInTheList();
        Bank.end("Terms1Test");
    }

    private static void landsFiveAtMost() {
        Bank.sentence("Terms 1: LANDS (5 at most, numbered from 0 on as told)");
        for (int count = 1; count <= 5; count++) {
            Bank bank = new Bank();
            Bank.same("lands", bank.tell(lands(count)), count);
            Bank.same("told(0)", bank.it.told(0), count);
            for (int land = 0; land < count; land++) {
                Bank.same("land " + land, bank.it.letter(land, 0), 'a' + land);
            }
            bank.refuses("the land behind the last", Bank.NO_SUCH, () -> bank.it.land(bank.it.told(0), 0));
        }
        fault(lands(6), SIXTH_LAND, 75);
        Bank backwards = Bank.told("land e 0 0 0 1;land b 0 0 0 1;");
        Bank.same("as told", backwards.it.letter(0, 0), 'e');
    }

    private static void number(String head, int number, String tail, int land, int what) {
        Bank bank = Bank.told(head + number + tail);
        Bank.same(head + number + tail, bank.it.land(land, what), number);
    }

    private static void monthOfReports() {
        Bank.sentence("Terms 1: a MONTH of its reports (0 to 11)");
        for (int month = 0; month <= 11; month++) {
            number("land a ", month, " 0 0 1;", 0, 0);
        }
        fault("land a 12 0 0 1;", WRONG_NUMBER, 7);
        fault("land a 13 0 0 1;", WRONG_NUMBER, 7);
        fault("land a -1 0 0 1;", CANNOT_STAND, 7);
    }

    private static void least() {
        Bank.sentence("Terms 1: a LEAST sum (0 to 9,999 cents)");
        for (int least : new int[] {0, 1, 9_998, 9_999}) {
            number("land a 0 ", least, " 0 1;", 0, 1);
        }
        fault("land a 0 10000 0 1;", WRONG_NUMBER, 9);
        fault("land a 0 -1 0 1;", CANNOT_STAND, 9);
    }

    private static void rate() {
        Bank.sentence("Terms 1: a RATE (0 to 999)");
        for (int rate : new int[] {0, 1, 998, 999}) {
            number("land a 0 0 ", rate, " 1;", 0, 2);
        }
        fault("land a 0 0 1000 1;", WRONG_NUMBER, 11);
        fault("land a 0 0 -1 1;", CANNOT_STAND, 11);
    }

    private static void years() {
        Bank.sentence("Terms 1: YEARS (1 to 50)");
        for (int years : new int[] {1, 2, 49, 50}) {
            number("land a 0 0 0 ", years, ";", 0, 3);
        }
        fault("land a 0 0 0 0;", WRONG_NUMBER, 13);
        fault("land a 0 0 0 51;", WRONG_NUMBER, 13);
    }

    private static void pays() {
        Bank.sentence("Terms 1: each PAYS 0 to 999 (0, if it is not told)");
        for (int pays : new int[] {0, 1, 998, 999}) {
            for (int kind = 0; kind < 5; kind++) {
                Bank bank = Bank.told(A + "pays " + KINDS[kind] + " " + pays + ";");
                for (int other = 0; other < 5; other++) {
                    Bank.same("pays(" + other + ")", bank.it.pays(other), other == kind ? pays : 0);
                }
            }
        }
        fault(A + "pays box 1000;", WRONG_NUMBER, 24);
        fault(A + "pays box -1;", CANNOT_STAND, 24);
    }

    private static void takesAKind() {
        Bank.sentence("Terms 1: a LAND takes a KIND, if a law of sleep is told for both");
        Bank bank = Bank.told(lands(3) + "sleep savings a 0;sleep box b 1;sleep savings b 2;pays cheque 5;");
        int[] kinds = {1, 17, 0};
        for (int land = 0; land < 3; land++) {
            Bank.same("kinds of land " + land, bank.it.land(land, 4), kinds[land]);
        }
        StringBuilder all = new StringBuilder(lands(5));
        for (String kind : KINDS) {
            for (int land = 0; land < 5; land++) {
                all.append("sleep ").append(kind).append(' ').append((char) ('a' + land)).append(" 1;");
            }
        }
        Bank full = Bank.told(all.toString());
        for (int land = 0; land < 5; land++) {
            Bank.same("all kinds of land " + land, full.it.land(land, 4), 31);
        }
    }

    private static void bytesOfAText() {
        Bank.sentence("Terms 1: a TEXT has up to 600 bytes");
        for (int length : new int[] {599, 600}) {
            stands(filled(A, length));
            stands(filled("", length - A.length()) + A);
            fault(filled(A, length - 1) + "x", CANNOT_STAND, length - 1);
            fault(filled(A + "wait 3", length), CANNOT_STAND, length);
            fault(filled("", length), NO_LAND, length);
        }
        StringBuilder sum = new StringBuilder(A + "sleep box a 0");
        while (sum.length() < 596) {
            sum.append("+1");
        }
        Bank bank = Bank.told(sum + "   ;");
        bank.it.open(4, 0, Bank.NONE, 0);
        Bank.same("the sum of a whole text", bank.it.sleep(0), (sum.length() - 28) / 2);
        fault(sum + "    ", CANNOT_STAND, 600);
        for (String one : new String[] {";", "(", "1 ", "a ", "1a", "+", "#"}) {
            StringBuilder tokens = new StringBuilder();
            while (tokens.length() < 600) {
                tokens.append(one);
            }
            fault(tokens.toString(), CANNOT_STAND, 0);
        }
        StringBuilder products = new StringBuilder(A + "sleep box a 1");
        while (products.length() < 598) {
            products.append("*1");
        }
        stands(products + " ;");
    }

    private static void linesNoneOrMany() {
        Bank.sentence("Terms 1: { LINE \";\" }: none, one, as many as there is room for");
        fault("", NO_LAND, 0);
        stands(A);
        StringBuilder many = new StringBuilder(lands(5));
        for (String kind : KINDS) {
            many.append("pays ").append(kind).append(" 1;");
        }
        stands(many + "wait 1;letter 1;home c;order birth;");
        fault(";", CANNOT_STAND, 0);
        fault(A + ";", CANNOT_STAND, 15);
        fault(A.substring(0, 14), CANNOT_STAND, 14);
        fault(A + "wait 1;;", CANNOT_STAND, 22);
    }

    private static void waitMonths() {
        Bank.sentence("Terms 1: \"wait\" N (months, 0 to 60; 3 without)");
        for (int wait : new int[] {0, 1, 59, 60}) {
            Bank.same("wait", Bank.told(A + "wait " + wait + ";").it.told(3), wait);
        }
        Bank.same("without", Bank.told(A).it.told(3), 3);
        fault(A + "wait 61;", WRONG_NUMBER, 20);
    }

    private static void letterCents() {
        Bank.sentence("Terms 1: \"letter\" N (cents, 0 to 999; 0 without)");
        for (int letter : new int[] {0, 1, 998, 999}) {
            Bank.same("letter", Bank.told(A + "letter " + letter + ";").it.told(4), letter);
        }
        Bank.same("without", Bank.told(A).it.told(4), 0);
        fault(A + "letter 1000;", WRONG_NUMBER, 22);
    }

    private static void home() {
        Bank.sentence("Terms 1: \"home\" W (a LAND: the bank's; LAND 0 without)");
        for (int land = 0; land < 5; land++) {
            Bank bank = Bank.told(lands(5) + "home " + (char) ('a' + land) + ";");
            Bank.same("home", bank.it.told(5), land);
        }
        Bank.same("without", Bank.told(lands(5)).it.told(5), 0);
        Bank.same("told ahead of more lands", Bank.told(A + "home a;land b 0 0 0 1;").it.told(5), 0);
    }

    private static void order() {
        Bank.sentence("Terms 1: \"order\" P { P } (unlike; all three in this order without)");
        String laws = lands(3) + "sleep box a 10;sleep box b 20;sleep box c 30;home c;";
        String[] orders = {"", "order address;", "order birth;", "order home;", "order birth home;", "order home address;",
            "order home birth address;", "order address birth home;"};
        int[] first = {10, 10, 20, 30, 20, 30, 30, 10};
        int[] without = {20, Bank.NONE, 20, 30, 20, 30, 30, 20};
        int[] onlyHome = {30, Bank.NONE, Bank.NONE, 30, 30, 30, 30, 30};
        for (int i = 0; i < orders.length; i++) {
            Bank bank = Bank.told(laws + orders[i]);
            bank.it.open(4, 0, 1, 0);
            bank.it.open(4, Bank.NONE, 1, 0);
            bank.it.open(4, Bank.NONE, Bank.NONE, 0);
            Bank.same("all three, " + orders[i], bank.it.sleep(0), first[i]);
            Bank.same("no address, " + orders[i], bank.it.sleep(1), without[i]);
            Bank.same("neither, " + orders[i], bank.it.sleep(2), onlyHome[i]);
        }
        fault(A + "order;", CANNOT_STAND, 20);
        fault(A + "order address birth home address;", CANNOT_STAND, 40);
        fault(A + "order address birth home cents;", CANNOT_STAND, 40);
    }

    private static void onceEach() {
        Bank.sentence("Terms 1: \"wait\", \"letter\", \"home\", \"order\" once each");
        stands(A + "wait 1;letter 1;home a;order home;");
        stands("order home;letter 1;wait 1;" + A + "home a;");
        Bank bank = new Bank();
        for (int i = 0; i < 2; i++) {
            Bank.same("once in each text", bank.tell("wait 0;letter 0;order home;" + A + "home a;"), 1);
        }
        Bank.same("a faulty one", bank.tell(A + "wait 1;letter 1;home a;order home;x"), CANNOT_STAND - 10);
        Bank.same("once behind a faulty one", bank.tell(A + "wait 1;letter 1;home a;order home;"), 1);
    }

    private static void onePaysOfAKind() {
        Bank.sentence("Terms 1: one \"pays\" of a KIND");
        StringBuilder five = new StringBuilder(A);
        for (int kind = 0; kind < 5; kind++) {
            five.append("pays ").append(KINDS[kind]).append(' ').append(kind).append(';');
        }
        stands(five.toString());
        for (String kind : KINDS) {
            fault(five + "pays " + kind + " 7;", SECOND_LAW, five.length() + 5);
        }
        fault(A + "pays box 0;pays box 0;", SECOND_LAW, 31);
    }

    private static void oneSleepOfAKindAndLand() {
        Bank.sentence("Terms 1: one \"sleep\" of a KIND and LAND");
        String two = lands(2) + "sleep box a 1;sleep box b 1;sleep cheque a 1;";
        stands(two + "sleep cheque b 1;");
        fault(two + "sleep box a 1;", SECOND_LAW, two.length() + 10);
        fault(two + "sleep box b 1;", SECOND_LAW, two.length() + 10);
        fault(two + "sleep  cheque  a 1;", SECOND_LAW, two.length() + 15);
    }

    private static void lettersOfAName() {
        Bank.sentence("Terms 1: NAME: 1 to 6 letters");
        for (String name : new String[] {"a", "z", "ab", "abcde", "zyxwvu"}) {
            Bank bank = Bank.told("land " + name + " 0 0 0 1;sleep box " + name + " 1;home " + name + ";");
            for (int i = 0; i < name.length(); i++) {
                Bank.same("letter " + i + " of " + name, bank.it.letter(0, i), name.charAt(i));
            }
            bank.refuses("the letter behind", Bank.NO_SUCH, () -> bank.it.letter(0, name.length()));
        }
        fault("land 0 0 0 1;", CANNOT_STAND, 5);
        fault("land ;", CANNOT_STAND, 5);
        fault("land abcdefg 0 0 0 1;", CANNOT_STAND, 5);
        fault("land abcdefgh 0 0 0 1;", CANNOT_STAND, 5);
    }

    private static void nameNoOtherWord() {
        Bank.sentence("Terms 1: NAME: no other word told here");
        String[] words = {"land", "sleep", "pays", "wait", "letter", "home", "order", "address", "birth", "cents",
            "age", "since", "letters", "min", "if", "less", "then", "else", "savings", "wages", "shares", "cheque",
            "box"};
        for (String word : words) {
            fault("land " + word + " 0 0 0 1;", CANNOT_STAND, 5);
            fault(A + "home " + word + ";", CANNOT_STAND, 20);
            fault(A + "sleep box " + word + " 1;", CANNOT_STAND, 25);
            String shorter = word.substring(0, word.length() - 1);
            if (shorter.length() <= 6 && !shorter.equals("letter")) {
                stands("land " + shorter + " 0 0 0 1;sleep box " + shorter + " 1;home " + shorter + ";");
            }
            String longer = word + "x";
            if (longer.length() <= 6) {
                stands("land " + longer + " 0 0 0 1;sleep box " + longer + " 1;home " + longer + ";");
            }
        }
    }

    private static void nameToldOnce() {
        Bank.sentence("Terms 1: NAME: told once");
        fault(A + A, WRONG_NAME, 20);
        fault(lands(4) + "land d 0 0 0 1;", WRONG_NAME, 65);
        fault(lands(4) + "land a 0 0 0 1;", WRONG_NAME, 65);
        stands("land aa 0 0 0 1;land a 0 0 0 1;land aaa 0 0 0 1;land ab 0 0 0 1;land ba 0 0 0 1;");
        stands("land abcdef 0 0 0 1;land abcdeg 0 0 0 1;land abcde 0 0 0 1;land bbcdef 0 0 0 1;");
    }

    private static void nameToldAhead() {
        Bank.sentence("Terms 1: NAME: told ahead of where it is asked");
        stands(A + "home a;sleep box a 1;");
        fault("home a;" + A, WRONG_NAME, 5);
        fault("sleep box a 1;" + A, WRONG_NAME, 10);
        fault(A + "home b;land b 0 0 0 1;", WRONG_NAME, 20);
        Bank bank = Bank.told("land old 0 0 0 1;");
        Bank.same("a name of the text before", bank.tell(A + "home old;"), WRONG_NAME - 10);
        Bank.same("its place", bank.it.fault(), 20);
    }

    private static void kindsWords() {
        Bank.sentence("Terms 1: K: a KIND's word");
        for (int kind = 0; kind < 5; kind++) {
            Bank bank = Bank.told(A + "sleep " + KINDS[kind] + " a 1;pays " + KINDS[kind] + " 1;");
            Bank.same("kind of " + KINDS[kind], bank.it.land(0, 4), 1 << kind);
        }
        for (String word : new String[] {"a", "saving", "boxes", "land", "home", "savingss", "1", ";", "Box", "("}) {
            fault(A + "sleep " + word + " a 1;", CANNOT_STAND, 21);
            fault(A + "pays " + word + " 1;", CANNOT_STAND, 20);
        }
    }

    private static void sums() {
        Bank.sentence("Terms 1: E: T { ( \"+\" | \"-\" ) T }: one T, more");
        law("1", 0, 0);
        law("1+2-3+4", 0, 0);
        law("", CANNOT_STAND, 0);
        law("+1", CANNOT_STAND, 0);
        law("-1", CANNOT_STAND, 0);
        law("1+", CANNOT_STAND, 2);
        law("1--1", CANNOT_STAND, 2);
        law("1+-1", CANNOT_STAND, 2);
    }

    private static void products() {
        Bank.sentence("Terms 1: T: F { ( \"*\" | \"/\" ) F }: one F, more");
        law("cents", 0, 0);
        law("1*2/3*4", 0, 0);
        law("*1", CANNOT_STAND, 0);
        law("1/", CANNOT_STAND, 2);
        law("1**1", CANNOT_STAND, 2);
        law("1*/1", CANNOT_STAND, 2);
        law("1 1", CANNOT_STAND, 2);
        law("1 age", CANNOT_STAND, 2);
        law("(1)(1)", CANNOT_STAND, 3);
    }

    private static void ifOfFactors() {
        Bank.sentence("Terms 1: \"if\" F \"less\" F \"then\" F \"else\" F: one F each");
        law("if age less since then letters else cents", 0, 0);
        law("if 1+1 less 2 then 3 else 4", CANNOT_STAND, 4);
        law("if 1 less 2*2 then 3 else 4", CANNOT_STAND, 11);
        law("if 1 less 2 then 3-1 else 4", CANNOT_STAND, 18);
        law("if 1 less 2 then 3 else 4-1", 0, 0);
        law("if less 2 then 3 else 4", CANNOT_STAND, 3);
        law("if 1 then 3 else 4", CANNOT_STAND, 5);
        law("if 1 less 2 else 4", CANNOT_STAND, 12);
        law("if 1 less 2 then 3", CANNOT_STAND, 18);
        law("if 1 less 2 then 3 else", CANNOT_STAND, 23);
    }

    private static void minOfTwo() {
        Bank.sentence("Terms 1: \"min\" \"(\" E \",\" E \")\": just two");
        law("min(1+1,2*2)", 0, 0);
        law("min 1,2", CANNOT_STAND, 4);
        law("min()", CANNOT_STAND, 4);
        law("min(1)", CANNOT_STAND, 5);
        law("min(1,)", CANNOT_STAND, 6);
        law("min(1,2,3)", CANNOT_STAND, 7);
        law("min(1,2", CANNOT_STAND, 7);
        law("(1,2)", CANNOT_STAND, 2);
        law("min", CANNOT_STAND, 3);
    }

    private static void numbers() {
        Bank.sentence("Terms 1: N: 0 to 999,999");
        Bank bank = Bank.told(lands(4) + "sleep box a 0;sleep box b 1;sleep box c 999998-999400;"
                + "sleep box d 999999-999400;");
        int[] want = {0, 1, 598, 599};
        for (int land = 0; land < 4; land++) {
            bank.it.open(4, land, Bank.NONE, 0);
            Bank.same("sleep by land " + land, bank.it.sleep(land), want[land]);
        }
        law("1000000", WRONG_NUMBER, 0);
        law("1+1000000", WRONG_NUMBER, 2);
        law("min(1,(1000000))", WRONG_NUMBER, 7);
        law("if 1 less 1000001 then 1 else 1", WRONG_NUMBER, 10);
    }

    private static void lettersOfWords() {
        Bank.sentence("Terms 1: words are as many small letters as stand there");
        fault("landa 0 0 0 1;", CANNOT_STAND, 0);
        fault("lan d a 0 0 0 1;", CANNOT_STAND, 0);
        fault(A + "homea;", CANNOT_STAND, 15);
        fault(A + "sleepbox a 1;", CANNOT_STAND, 15);
        fault(A + "sleep boxa 1;", CANNOT_STAND, 21);
        law("ageage", CANNOT_STAND, 0);
        law("if1less2then3else4", 0, 0);
        law("if age lesssince then 1 else 1", CANNOT_STAND, 7);
        for (char beside : new char[] {'`', '{', '@', '[', 'A', 'Z', (char) ('a' + 128)}) {
            fault("land " + beside + " 0 0 0 1;", CANNOT_STAND, 5);
            fault("land a" + beside + " 0 0 0 1;", CANNOT_STAND, 6);
        }
        stands("land az 0 0 0 1;home az;");
    }

    private static void lettersOfEachWord() {
        Bank.sentence("Terms 1: the words of the language, letter by letter");
        String[] lines = {"land b 0 0 0 1;", "sleep box a 1;", "pays savings 1;", "pays wages 1;", "pays shares 1;",
            "pays cheque 1;", "pays box 1;", "wait 1;", "letter 1;", "home a;", "order address birth home;",
            "sleep box a cents+age+since+letters;", "sleep box a min(1,2)-if 1 less 2 then 3 else 4;"};
        for (String line : lines) {
            stands(A + line);
            int word = 0;
            for (int i = 0; i < line.length(); i++) {
                boolean letter = line.charAt(i) >= 'a' && line.charAt(i) <= 'z';
                boolean begins = i == 0 || line.charAt(i - 1) < 'a' || line.charAt(i - 1) > 'z';
                word = begins ? i : word;
                boolean name = line.startsWith(" a ", i - 1) || line.startsWith(" b ", i - 1) || line.startsWith(" a;", i - 1);
                if (letter && !name) {
                    String other = line.substring(0, i) + (line.charAt(i) == 'q' ? 'x' : 'q') + line.substring(i + 1);
                    fault(A + other, CANNOT_STAND, 15 + word);
                }
            }
        }
    }

    private static void digitsOfNumbers() {
        Bank.sentence("Terms 1: numbers are as many digits as stand there");
        stands(A + "wait 09;");
        stands(A + "wait 0000000000000000000000000000000060;");
        fault(A + "wait 0000000000000000000000000000000061;", WRONG_NUMBER, 20);
        fault(A + "wait 6 0;", CANNOT_STAND, 22);
        stands("land a0 0 0 1;");
        fault("land a0000 1;", CANNOT_STAND, 12);
        for (String wraps : new String[] {"4294967296", "4294967297", "2147483648", "8589934593", "18446744073709551616",
            "18446744073709551617", "340282366920938463463374607431768211457", "10000000000000000000000000"}) {
            fault(A + "wait " + wraps + ";", WRONG_NUMBER, 20);
            fault("land a " + wraps + " 0 0 1;", WRONG_NUMBER, 7);
            law(wraps, WRONG_NUMBER, 0);
        }
        for (char beside : new char[] {'/', ':', (char) ('0' + 128)}) {
            fault(A + "wait " + beside + ";", CANNOT_STAND, 20);
            fault(A + "wait 1" + beside + ";", CANNOT_STAND, 21);
        }
    }

    private static void blanks() {
        Bank.sentence("Terms 1: blanks (32) may stand ahead of all words, numbers, signs, and at the end");
        stands("   land   a   0   0   0   1   ;   ");
        stands(A + " sleep  box  a  min ( 1 , 2 ) + ( 3 ) * 4 / 5 - if 1 less 2 then 3 else 4 ; order  home  birth ; ");
        stands(A + "sleep box a min(1,2)+(3)*4/5-if 1less 2then 3else 4;order home birth;wait1;letter2;pays box3;");
        stands("land a 0 0 0 1;sleep box a12;");
        int[] others = {0, 9, 10, 13, 31, 33, 127, 128, 160, 255};
        for (int other : others) {
            fault((char) other + A, CANNOT_STAND, 0);
            fault("land" + (char) other + "a 0 0 0 1;", CANNOT_STAND, 4);
            fault("land a 0 0 0 1" + (char) other + ";", CANNOT_STAND, 14);
            fault(A + (char) other, CANNOT_STAND, 15);
        }
        fault("la nd a 0 0 0 1;", CANNOT_STAND, 0);
        fault(A + "wait 1 2;", CANNOT_STAND, 22);
    }

    private static void cannotStandAtTheLength() {
        Bank.sentence("Terms 1: fault 1 is at the length, if the text ends too early");
        String[] ends = {"land", "land a", "land a 0", "land a 0 0", "land a 0 0 0", "land a 0 0 0 1", A + "sleep",
            A + "sleep box", A + "sleep box a", A + "sleep box a 1", A + "sleep box a 1+", A + "sleep box a 1*",
            A + "sleep box a (", A + "sleep box a (1", A + "sleep box a (1)", A + "sleep box a min", A + "sleep box a min(",
            A + "sleep box a min(1", A + "sleep box a min(1,", A + "sleep box a min(1,2", A + "sleep box a if",
            A + "sleep box a if 1", A + "sleep box a if 1 less", A + "sleep box a if 1 less 2",
            A + "sleep box a if 1 less 2 then", A + "sleep box a if 1 less 2 then 3",
            A + "sleep box a if 1 less 2 then 3 else", A + "sleep box a if 1 less 2 then 3 else 4", A + "pays",
            A + "pays box", A + "pays box 1", A + "wait", A + "wait 1", A + "letter", A + "letter 1", A + "home",
            A + "home a", A + "order", A + "order birth", A + "order birth home address"};
        for (String text : ends) {
            fault(text, CANNOT_STAND, text.length());
            fault(text + " ", CANNOT_STAND, text.length() + 1);
            fault(text + "   ", CANNOT_STAND, text.length() + 3);
            fault(filled("", 600 - text.length()) + text, CANNOT_STAND, 600);
        }
        fault(filled("", 580) + A + "pays", CANNOT_STAND, 599);
        fault(filled(A, 594) + "home b", WRONG_NAME, 599);
        fault(filled(A, 594) + "land a", WRONG_NAME, 599);
        fault(filled(A, 593) + "wait 61", WRONG_NUMBER, 598);
        fault(filled(A, 593) + "landabc", CANNOT_STAND, 593);
    }

    private static void linesThatStopShort() {
        Bank.sentence("Terms 1: fault 1: what can't stand there: a LINE that stops short, one that goes on");
        String[] lines = {"land b", "land b 0", "land b 0 0", "land b 0 0 0", "land", "sleep", "sleep box", "sleep box a",
            "sleep box a 1+", "sleep box a (1", "sleep box a min(1", "sleep box a min(1,", "sleep box a min(1,2",
            "sleep box a if 1", "sleep box a if 1 less", "sleep box a if 1 less 2 then 3", "pays", "pays box", "wait", "letter",
            "home", "order"};
        for (String line : lines) {
            fault(A + line + ";", CANNOT_STAND, 15 + line.length());
            fault(A + line + " ;", CANNOT_STAND, 16 + line.length());
            fault(A + line + ";" + A, CANNOT_STAND, 15 + line.length());
        }
        String[] whole = {"land b 0 0 0 1", "sleep box a 1", "sleep box a (1)", "sleep box a min(1,2)", "sleep box a age",
            "sleep box a if 1 less 2 then 3 else 4", "pays box 1", "wait 1", "letter 1", "home a", "order home",
            "order address birth home"};
        for (String line : whole) {
            stands(A + line + ";");
            for (String more : new String[] {" 1", " a", ",", ")", " box", "(", ":"}) {
                int place = 15 + line.length() + (more.charAt(0) == ' ' ? 1 : 0);
                fault(A + line + more + ";", CANNOT_STAND, place);
                fault(A + line + more, CANNOT_STAND, place);
            }
        }
    }

    private static void longWords() {
        Bank.sentence("Terms 1: fault 1: a word of more than 6 letters that is none told here");
        fault("abcdefg a 0 0 0 1;", CANNOT_STAND, 0);
        fault("land abcdefg 0 0 0 1;", CANNOT_STAND, 5);
        fault(A + "home abcdefg;", CANNOT_STAND, 20);
        fault(A + "home abcdef;", WRONG_NAME, 20);
        fault(A + "sleep box abcdefg 1;", CANNOT_STAND, 25);
        fault(A + "sleep box abcdef 1;", WRONG_NAME, 25);
        fault(A + "order addresses;", CANNOT_STAND, 21);
        law("lettersx", CANNOT_STAND, 0);
        law("letters", 0, 0);
        stands(A + "sleep savings a 1;order address;");
        StringBuilder longest = new StringBuilder();
        while (longest.length() < 600) {
            longest.append("land");
        }
        fault(longest.toString(), CANNOT_STAND, 0);
        fault("land " + longest.substring(5), CANNOT_STAND, 5);
    }

    private static void secondOfOnce() {
        Bank.sentence("Terms 1: fault 1: a second one of once, by its first word of the LINE or its P");
        fault(A + "wait 1; wait 1;", CANNOT_STAND, 23);
        fault(A + "wait 1;wait 99;", CANNOT_STAND, 22);
        fault(A + "letter 1; letter 1;", CANNOT_STAND, 25);
        fault(A + "home a; home a;", CANNOT_STAND, 23);
        fault(A + "home a;home b;", CANNOT_STAND, 22);
        fault(A + "order home; order birth;", CANNOT_STAND, 27);
        fault(A + "order home  home;", CANNOT_STAND, 27);
        fault(A + "order address birth address;", CANNOT_STAND, 35);
        fault("wait 0;wait 0;", CANNOT_STAND, 7);
        fault("letter 0;letter 0;", CANNOT_STAND, 9);
        fault(A + "wait 3;letter 0;home a;order address birth home;wait 3;", CANNOT_STAND, 63);
        fault(A + "wait 3;letter 0;home a;order address birth home;letter 0;", CANNOT_STAND, 63);
        fault(A + "wait 3;letter 0;home a;order address birth home;home a;", CANNOT_STAND, 63);
        fault(A + "wait 3;letter 0;home a;order address birth home;order home;", CANNOT_STAND, 63);
    }

    private static void numberThatIsNoneSuch() {
        Bank.sentence("Terms 1: fault 2: a number that is none such");
        fault("land a  12 0 0 1;", WRONG_NUMBER, 8);
        fault("land a 0 10000 1000 0;", WRONG_NUMBER, 9);
        fault("land a 0 0 1000 0;", WRONG_NUMBER, 11);
        fault("land a 0 0 0 0;", WRONG_NUMBER, 13);
        fault("land a 0 0 0 00;", WRONG_NUMBER, 13);
        fault(A + "pays box 1000;", WRONG_NUMBER, 24);
        fault(A + "wait 61;", WRONG_NUMBER, 20);
        fault(A + "letter 1000;", WRONG_NUMBER, 22);
        law("1000000", WRONG_NUMBER, 0);
        fault(A + "wait 61", WRONG_NUMBER, 20);
    }

    private static void names() {
        Bank.sentence("Terms 1: fault 3: a NAME that is told already, one that no LAND has");
        fault(A + "land  a 0 0 0 1;", WRONG_NAME, 21);
        fault(A + "land a", WRONG_NAME, 20);
        fault(A + "home  b;", WRONG_NAME, 21);
        fault(A + "home aa;", WRONG_NAME, 20);
        fault("land ab 0 0 0 1;home a;", WRONG_NAME, 21);
        fault("land ab 0 0 0 1;home ac;", WRONG_NAME, 21);
        fault("land ab 0 0 0 1;home bb;", WRONG_NAME, 21);
        fault(A + "sleep box b 1;", WRONG_NAME, 25);
        fault("home a;", WRONG_NAME, 5);
    }

    private static void sixthLand() {
        Bank.sentence("Terms 1: fault 4: a sixth \"land\" (by its word)");
        fault(lands(5) + "land f 0 0 0 1;", SIXTH_LAND, 75);
        fault(lands(5) + "  land f 0 0 0 1;", SIXTH_LAND, 77);
        fault(lands(5) + "land", SIXTH_LAND, 75);
        fault(lands(5) + "land a 99 0 0 1;", SIXTH_LAND, 75);
        fault(lands(5) + "wait 3;land f 0 0 0 1;", SIXTH_LAND, 82);
        fault(lands(5) + "landf 0 0 0 1;", CANNOT_STAND, 75);
    }

    private static void fourthLevel() {
        Bank.sentence("Terms 1: fault 5: a fourth \"(\" or \"if\" within others (by it; \"min\" by its \"(\")");
        law("(((1)))", 0, 0);
        law("((( (1))))", FOURTH_LEVEL, 4);
        law("(((min (1,2))))", FOURTH_LEVEL, 7);
        law("(((if 1 less 2 then 3 else 4)))", FOURTH_LEVEL, 3);
        law("((if 1 less 2 then 3 else 4))", 0, 0);
        law("min(min(min(1,2),3),4)", 0, 0);
        law("min(min(min(min(1,2),3),4),5)", FOURTH_LEVEL, 15);
        law("min(1,min(2,min(3,4)))", 0, 0);
        law("min(1,min(2,min(3,(4))))", FOURTH_LEVEL, 18);
        law("if if if 1 less 1 then 1 else 1 less 1 then 1 else 1 less 1 then 1 else 1", 0, 0);
        law("if if if if 1", FOURTH_LEVEL, 9);
        law("if 1 less if 1 less if 1 less (1)", FOURTH_LEVEL, 30);
        law("if 1 less 1 then if 1 less 1 then if 1 less 1 then (1)", FOURTH_LEVEL, 51);
        law("if 1 less 1 then 1 else if 1 less 1 then 1 else if 1 less 1 then 1 else (1)", FOURTH_LEVEL, 72);
        law("if 1 less 1 then 1 else if 1 less 1 then 1 else if 1 less 1 then 1 else 1", 0, 0);
        law("(1)+((1))+(((1)))+(((1)))*(((1)))", 0, 0);
        law("(((1+1)*(1+1)))", 0, 0);
        law("((((1+1)*(1+1))))", FOURTH_LEVEL, 3);
        law("(((1+(1))))", FOURTH_LEVEL, 5);
        law("(((1)))+((((1))))", FOURTH_LEVEL, 11);
        law("((((", FOURTH_LEVEL, 3);
        law("(((min", CANNOT_STAND, 6);
        law("(((min 1", CANNOT_STAND, 7);
    }

    private static void secondLaw() {
        Bank.sentence("Terms 1: fault 6: a second law or \"pays\" of the same (at the KIND; of a law at the LAND)");
        fault(A + "pays  box 1;pays  box 1;", SECOND_LAW, 33);
        fault(A + "pays box 1;pays box", SECOND_LAW, 31);
        fault(A + "pays box 1;pays box 1000;", SECOND_LAW, 31);
        fault(A + "sleep box a 1;sleep box  a 1;", SECOND_LAW, 40);
        fault(A + "sleep box a 1;sleep box a", SECOND_LAW, 39);
        fault(A + "sleep box a 1;sleep box a ((((1))));", SECOND_LAW, 39);
        fault(A + "sleep box a 1;sleep box b 1;", WRONG_NAME, 39);
        stands(A + "sleep box a 1;pays box 1;sleep cheque a 1;pays cheque 1;");
    }

    private static void noLand() {
        Bank.sentence("Terms 1: if there is none: 7, at the length: no LAND");
        fault("", NO_LAND, 0);
        fault(" ", NO_LAND, 1);
        fault("wait 1;", NO_LAND, 7);
        fault("wait 1;  ", NO_LAND, 9);
        fault("pays box 1;order home;letter 3;", NO_LAND, 31);
        fault("wait 61;", WRONG_NUMBER, 5);
        fault("wait 1", CANNOT_STAND, 6);
        stands(A);
    }

    private static void leastByte() {
        Bank.sentence("Terms 1: of several faults the one whose first byte is least");
        fault("land a 12 10000 1000 0;;", WRONG_NUMBER, 7);
        fault("wait 61;land land", WRONG_NUMBER, 5);
        fault("home b;land a 12 0 0 1;", WRONG_NAME, 5);
        fault("sleep box a ((((1000000", WRONG_NAME, 10);
        law("1000000+((((1))))", WRONG_NUMBER, 0);
        law("((((1000000))))", FOURTH_LEVEL, 3);
        law("(1000000", WRONG_NUMBER, 1);
        fault(lands(5) + "land a 0 0 0 1;wait 61;", SIXTH_LAND, 75);
        fault(lands(5) + "wait 61;land a 0 0 0 1;", WRONG_NUMBER, 80);
        fault(A + "wait 1;wait 61;", CANNOT_STAND, 22);
    }

    private static void firstInTheList() {
        Bank.sentence("Terms 1: of several faults of one byte the first in this list");
        law("1((((1))))", CANNOT_STAND, 1);
        law("(((1(", CANNOT_STAND, 4);
        law("(((1 if 1 less 2 then 3 else 4", CANNOT_STAND, 5);
        law("1 1000000", CANNOT_STAND, 2);
        fault(A + "1000000;", CANNOT_STAND, 15);
        fault("land 1000000 0 0 0 1;", CANNOT_STAND, 5);
        fault(lands(5) + "home land f 0 0 0 1;", CANNOT_STAND, 80);
        fault(A + "home abcdefg;", CANNOT_STAND, 20);
        fault(A + "sleep box if 1;", CANNOT_STAND, 25);
        fault(A + "pays pays 1;", CANNOT_STAND, 20);
    }
}
