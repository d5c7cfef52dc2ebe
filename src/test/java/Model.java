import java.math.BigInteger;
import java.util.ArrayList;
import java.util.Arrays;
import java.util.HashMap;
import java.util.HashSet;
import java.util.List;
import java.util.Map;
import java.util.Set;
import java.util.TreeMap;

/**
 * The document told once more, as plainly as can be and not like the program: texts become trees
 * over BigInteger, undo plays all acts but the latest again, rescue tries every set on a whole copy.
 */
final class Model {
    static final int NONE = -1;

    /** A call that is refused: 0 no such, 1 argument, 2 state. */
    static final class Refused extends RuntimeException {
        final int kind;

        Refused(int kind) {
            super(null, null, false, false);
            this.kind = kind;
        }
    }

    private static final class Fault extends RuntimeException {
        final int what;
        final int where;

        Fault(int what, int where) {
            super(null, null, false, false);
            this.what = what;
            this.where = where;
        }
    }

    private interface Tree {
        BigInteger of(Acc acc);
    }

    private static final class LandTold {
        String name;
        int month;
        int least;
        int rate;
        int years;
    }

    private static final class Told {
        final List<LandTold> lands = new ArrayList<>();
        final Map<String, Tree> laws = new HashMap<>();
        final Map<Integer, Integer> pays = new HashMap<>();
        Integer wait;
        Integer letter;
        Integer home;
        List<String> order;

        int waitMonths() {
            return wait == null ? 3 : wait;
        }

        int letter() {
            return letter == null ? 0 : letter;
        }

        int home() {
            return home != null ? home : lands.isEmpty() ? NONE : 0;
        }

        List<String> order() {
            return order == null ? Arrays.asList("address", "birth", "home") : order;
        }

        int pays(int kind) {
            return pays.getOrDefault(kind, 0);
        }
    }

    private static final class Acc implements Cloneable {
        int kind;
        int address;
        int birth;
        long cents;
        int state;
        int opened;
        int contacted;
        int stopped = NONE;
        int letters;
        int letterMonth = NONE;
        int holder = NONE;
        int handed = NONE;
        boolean nameless;
        int now;

        Acc copy() {
            try {
                return (Acc) clone();
            } catch (CloneNotSupportedException e) {
                throw new AssertionError(e);
            }
        }

        int last() {
            return stopped == NONE ? now : stopped;
        }

        boolean alive() {
            return state == 0 || state == 1;
        }
    }

    private static final class State {
        Told told = new Told();
        List<Acc> accs = new ArrayList<>();
        List<long[]> book = new ArrayList<>();
        int month;
        long[] books = new long[7];
        Map<Integer, Long> interest = new TreeMap<>();
        Map<Integer, Long> passed = new TreeMap<>();

        State copy() {
            State other = new State();
            other.told = told;
            for (Acc acc : accs) {
                other.accs.add(acc.copy());
            }
            other.book.addAll(book);
            other.month = month;
            other.books = books.clone();
            other.interest.putAll(interest);
            other.passed.putAll(passed);
            return other;
        }

        int landOf(Acc acc) {
            for (String place : told.order()) {
                int land = place.equals("address") ? acc.address : place.equals("birth") ? acc.birth : told.home();
                if (land != NONE && told.laws.containsKey(acc.kind + " " + land)) {
                    return land;
                }
            }
            return NONE;
        }

        int sleepOf(Acc acc) {
            BigInteger sleep = told.laws.get(acc.kind + " " + landOf(acc)).of(acc);
            return sleep.max(BigInteger.ZERO).min(BigInteger.valueOf(600)).intValue();
        }

        int lettersSent() {
            int sum = 0;
            for (Acc acc : accs) {
                sum += acc.letters;
            }
            return sum;
        }

        int goMonth() {
            int before = book.size();
            month++;
            for (int i = 0; i < accs.size(); i++) {
                Acc acc = accs.get(i);
                if (acc.alive()) {
                    go(i, acc);
                }
            }
            return book.size() - before;
        }

        private void go(int number, Acc acc) {
            long with = Math.min(100_000_000, acc.cents + acc.cents * told.pays(acc.kind) / 120_000);
            books[1] += with - acc.cents;
            acc.cents = with;
            acc.now = month;
            int land = landOf(acc);
            if (land == NONE) {
                return;
            }
            LandTold rules = told.lands.get(land);
            if (acc.state == 0) {
                if (month - acc.contacted >= sleepOf(acc)) {
                    long price = Math.min(acc.cents, told.letter());
                    acc.cents -= price;
                    books[3] += price;
                    acc.letters++;
                    acc.letterMonth = month;
                    acc.state = 1;
                }
                return;
            }
            boolean waited = month >= acc.letterMonth + told.waitMonths();
            if (waited && Math.floorMod(month, 12) == rules.month) {
                acc.state = 2;
                acc.stopped = month;
                acc.handed = month;
                acc.holder = land;
                acc.nameless = acc.cents < rules.least;
                book.add(new long[] {month, number, land, acc.cents, acc.nameless ? 1 : 0});
            }
        }

        long worthAt(Acc acc, int when) {
            LandTold land = told.lands.get(acc.holder);
            BigInteger months = BigInteger.valueOf(Math.min(when - acc.handed, land.years * 12));
            BigInteger cents = BigInteger.valueOf(acc.cents);
            BigInteger gain = cents.multiply(BigInteger.valueOf(land.rate)).multiply(months);
            return cents.add(gain.divide(BigInteger.valueOf(120_000))).longValueExact();
        }
    }

    private interface Act {
        long on(State state);
    }

    private final StringBuilder tape = new StringBuilder();
    private final List<Act> acts = new ArrayList<>();
    private int undoable;
    private State state = new State();
    private int faultPlace = NONE;

    private static void refuse(boolean refused, int kind) {
        if (refused) {
            throw new Refused(kind);
        }
    }

    private long act(Act act) {
        acts.add(act);
        undoable = Math.min(8, undoable + 1);
        return act.on(state);
    }

    private Acc acc(int account) {
        refuse(account < 0 || account >= state.accs.size(), 0);
        return state.accs.get(account);
    }

    private boolean isLand(int land) {
        return land >= 0 && land < state.told.lands.size();
    }

    /** A call by its name; what comes back, or Refused is thrown. */
    long call(String name, int[] a) {
        switch (name) {
            case "feed":
                return feed(a);
            case "text":
                return text(a[0]);
            case "fault":
                return faultPlace;
            case "open":
                return open(a[0], a[1], a[2], a[3]);
            case "contact":
                return contact(a[0]);
            case "deposit":
                return deposit(a[0], a[1]);
            case "draw":
                return draw(a[0], a[1]);
            case "address":
                return address(a[0], a[1]);
            case "close":
                return close(a[0]);
            case "months":
                return months(a[0]);
            case "claim":
                return claim(a[0]);
            case "pass":
                return pass(a[0]);
            case "undo":
                return undo();
            case "told":
                return told(a[0]);
            case "land":
                return land(a[0], a[1]);
            case "purse":
                return purse(a[0], a[1]);
            case "letter":
                return letter(a[0], a[1]);
            case "pays":
                refuse(a[0] < 0 || a[0] > 4, 1);
                return state.told.pays(a[0]);
            case "account":
                return account(a[0], a[1]);
            case "sleep":
                return acc(a[0]).alive() && state.landOf(acc(a[0])) != NONE ? state.sleepOf(acc(a[0])) : NONE;
            case "soon":
                return soon(a[0]);
            case "worth":
                acc(a[0]);
                refuse(a[1] < 0 || a[1] > 600, 1);
                return acc(a[0]).state != 2 || acc(a[0]).nameless ? NONE
                        : state.worthAt(acc(a[0]), state.month + a[1]);
            case "row":
                refuse(a[0] < 0 || a[0] >= state.book.size(), 0);
                refuse(a[1] < 0 || a[1] > 4, 1);
                return state.book.get(a[0])[a[1]];
            case "ahead":
                return ahead(a[0], a[1]);
            case "letters":
                refuse(a[0] < 1 || a[0] > 120, 1);
                return later(state.copy(), a[0]).lettersSent() - state.lettersSent();
            case "rescue":
                return rescue(a[0], a[1], a[2]);
            case "books":
                return books(a[0]);
            case "print":
                return print();
            default:
                throw new AssertionError(name);
        }
    }

    private long feed(int[] five) {
        if (tape.length() > 580) {
            return NONE;
        }
        for (int one : five) {
            for (int shift : new int[] {24, 16, 8, 0}) {
                tape.append((char) (one >> shift & 255));
            }
        }
        return tape.length();
    }

    private long text(int n) {
        refuse(n < 0 || n > tape.length(), 1);
        String text = tape.substring(0, n);
        tape.setLength(0);
        faultPlace = NONE;
        try {
            Told told = new Parser(text).read();
            return act(s -> {
                s.told = told;
                s.accs = new ArrayList<>();
                s.book = new ArrayList<>();
                s.month = 0;
                s.books = new long[7];
                s.interest = new TreeMap<>();
                s.passed = new TreeMap<>();
                return told.lands.size();
            });
        } catch (Fault fault) {
            faultPlace = fault.where;
            return fault.what - 10;
        }
    }

    private long open(int kind, int address, int birth, int cents) {
        refuse(address != NONE && !isLand(address) || birth != NONE && !isLand(birth), 0);
        refuse(kind < 0 || kind > 4 || cents < 0 || cents > 100_000_000, 1);
        refuse(state.accs.size() == 12, 2);
        return act(s -> {
            Acc acc = new Acc();
            acc.kind = kind;
            acc.address = address;
            acc.birth = birth;
            acc.cents = cents;
            acc.opened = s.month;
            acc.contacted = s.month;
            acc.now = s.month;
            s.accs.add(acc);
            s.books[0] += cents;
            return s.accs.size() - 1;
        });
    }

    private long contact(int account) {
        refuse(!acc(account).alive(), 2);
        return act(s -> {
            Acc acc = s.accs.get(account);
            int since = s.month - acc.contacted;
            acc.contacted = s.month;
            acc.state = 0;
            return since;
        });
    }

    private long deposit(int account, int cents) {
        acc(account);
        refuse(cents < 1 || cents > 1_000_000, 1);
        refuse(!acc(account).alive() || acc(account).cents + cents > 100_000_000, 2);
        return move(account, cents);
    }

    private long draw(int account, int cents) {
        acc(account);
        refuse(cents < 1 || cents > 1_000_000, 1);
        refuse(!acc(account).alive() || cents > acc(account).cents, 2);
        return move(account, -cents);
    }

    private long move(int account, int cents) {
        return act(s -> {
            Acc acc = s.accs.get(account);
            acc.cents += cents;
            s.books[cents > 0 ? 0 : 2] += Math.abs(cents);
            acc.contacted = s.month;
            acc.state = 0;
            return acc.cents;
        });
    }

    private long address(int account, int land) {
        acc(account);
        refuse(land != NONE && !isLand(land), 0);
        return act(s -> {
            int before = s.accs.get(account).address;
            s.accs.get(account).address = land;
            return before;
        });
    }

    private long close(int account) {
        refuse(!acc(account).alive(), 2);
        return act(s -> {
            Acc acc = s.accs.get(account);
            long paid = acc.cents;
            acc.cents = 0;
            acc.state = 4;
            acc.stopped = s.month;
            s.books[2] += paid;
            return paid;
        });
    }

    private long months(int n) {
        refuse(n < 1 || n > 120, 1);
        refuse(state.month + n > 6000, 2);
        return act(s -> {
            int handed = 0;
            for (int i = 0; i < n; i++) {
                handed += s.goMonth();
            }
            return handed;
        });
    }

    private long claim(int account) {
        refuse(acc(account).state != 2 || acc(account).nameless, 2);
        return act(s -> {
            Acc acc = s.accs.get(account);
            long back = s.worthAt(acc, s.month);
            s.interest.merge(acc.holder, back - acc.cents, Long::sum);
            s.books[6] += acc.cents;
            acc.cents = 0;
            acc.state = 3;
            return back;
        });
    }

    private long pass(int account) {
        Acc one = acc(account);
        refuse(one.state != 2 || state.landOf(one) == NONE || state.landOf(one) == one.holder, 2);
        return act(s -> {
            Acc acc = s.accs.get(account);
            acc.holder = s.landOf(acc);
            s.passed.merge(acc.holder, acc.cents, Long::sum);
            return acc.holder;
        });
    }

    private long undo() {
        if (undoable == 0) {
            return NONE;
        }
        undoable--;
        acts.remove(acts.size() - 1);
        state = new State();
        for (Act act : acts) {
            act.on(state);
        }
        return undoable;
    }

    private long told(int what) {
        refuse(what < 0 || what > 9, 1);
        long[] all = {state.told.lands.size(), state.accs.size(), state.month, state.told.waitMonths(), state.told.letter(),
            state.told.home(), state.book.size(), state.lettersSent(), tape.length(), undoable};
        return all[what];
    }

    private long land(int land, int what) {
        refuse(!isLand(land), 0);
        refuse(what < 0 || what > 5, 1);
        LandTold one = state.told.lands.get(land);
        int kinds = 0;
        for (int kind = 0; kind < 5; kind++) {
            kinds += state.told.laws.containsKey(kind + " " + land) ? 1 << kind : 0;
        }
        int held = 0;
        for (int i = 0; i < state.accs.size(); i++) {
            held += state.accs.get(i).state == 2 && state.accs.get(i).holder == land ? 1 << i : 0;
        }
        return new int[] {one.month, one.least, one.rate, one.years, kinds, held}[what];
    }

    private long purse(int land, int what) {
        refuse(!isLand(land), 0);
        refuse(what < 0 || what > 3, 1);
        long held = 0;
        for (Acc acc : state.accs) {
            held += acc.state == 2 && acc.holder == land ? acc.cents : 0;
        }
        long rows = 0;
        for (long[] row : state.book) {
            rows += row[2] == land ? row[3] : 0;
        }
        return new long[] {held, state.interest.getOrDefault(land, 0L), rows,
            state.passed.getOrDefault(land, 0L)}[what];
    }

    private long letter(int land, int i) {
        refuse(!isLand(land), 0);
        String name = state.told.lands.get(land).name;
        refuse(i < 0 || i >= name.length(), 0);
        return name.charAt(i);
    }

    private long account(int account, int what) {
        Acc acc = acc(account);
        refuse(what < 0 || what > 10, 1);
        int land = acc.alive() ? state.landOf(acc) : acc.state == 2 ? acc.holder : NONE;
        long[] all = {acc.kind, acc.address, acc.birth, acc.cents, acc.state, acc.last() - acc.opened,
            acc.last() - acc.contacted, acc.letters, land, acc.letterMonth, acc.nameless ? 1 : 0};
        return all[what];
    }

    /** The state so many months on, or as many as there are. */
    private static State later(State from, int n) {
        for (int i = 0; i < n && from.month < 6000; i++) {
            from.goMonth();
        }
        return from;
    }

    private long soon(int account) {
        acc(account);
        State copy = state.copy();
        for (int i = 1; i <= 600 && copy.accs.get(account).alive() && copy.month < 6000; i++) {
            copy.goMonth();
            if (copy.accs.get(account).state == 2) {
                return i;
            }
        }
        return NONE;
    }

    private long handedBehind(State later, int land) {
        long sum = 0;
        for (int i = state.book.size(); i < later.book.size(); i++) {
            long[] row = later.book.get(i);
            sum += land == NONE || row[2] == land ? row[3] : 0;
        }
        return sum;
    }

    private long ahead(int land, int n) {
        refuse(land != NONE && !isLand(land), 0);
        refuse(n < 1 || n > 120, 1);
        return handedBehind(later(state.copy(), n), land);
    }

    private long rescue(int k, int n, int what) {
        refuse(k < 1 || k > 3 || n < 1 || n > 120 || what < 0 || what > 1, 1);
        int alive = 0;
        for (Acc acc : state.accs) {
            alive += acc.alive() ? 1 : 0;
        }
        long best = Long.MAX_VALUE;
        int bestSet = NONE;
        for (int set = 0; set < 1 << state.accs.size(); set++) {
            State copy = state.copy();
            if (Integer.bitCount(set) == Math.min(k, alive) && woken(copy, set)) {
                long handed = handedBehind(later(copy, n), NONE);
                if (handed < best) {
                    best = handed;
                    bestSet = set;
                }
            }
        }
        return what == 0 ? bestSet : best;
    }

    private static boolean woken(State copy, int set) {
        for (int i = 0; i < copy.accs.size(); i++) {
            Acc acc = copy.accs.get(i);
            if ((set >> i & 1) == 1) {
                if (!acc.alive()) {
                    return false;
                }
                acc.contacted = copy.month;
                acc.state = 0;
            }
        }
        return true;
    }

    private long books(int what) {
        refuse(what < 0 || what > 6, 1);
        long alive = 0;
        long held = 0;
        for (Acc acc : state.accs) {
            alive += acc.alive() ? acc.cents : 0;
            held += acc.state == 2 ? acc.cents : 0;
        }
        return what == 4 ? alive : what == 5 ? held : state.books[what];
    }

    private long print() {
        long sum = 0;
        for (Acc acc : state.accs) {
            for (long one : new long[] {acc.cents, acc.state, acc.last() - acc.contacted}) {
                sum = sum * 31 + one;
            }
        }
        return sum;
    }

    /** Reads a text letter by letter; the first fault is thrown. */
    private static final class Parser {
        private static final Set<String> WORDS = new HashSet<>(Arrays.asList("land", "sleep", "pays", "wait", "letter",
                "home", "order", "address", "birth", "cents", "age", "since", "letters", "min", "if", "less", "then",
                "else", "savings", "wages", "shares", "cheque", "box"));
        private static final List<String> KINDS = Arrays.asList("savings", "wages", "shares", "cheque", "box");
        private static final BigInteger MOST = BigInteger.TEN.pow(12);

        private final String text;
        private final Told told = new Told();
        private int i;

        Parser(String text) {
            this.text = text;
        }

        Told read() {
            while (peek() != 0) {
                line();
                sign(';');
            }
            if (told.lands.isEmpty()) {
                throw new Fault(7, text.length());
            }
            return told;
        }

        /** The character that comes behind blanks; 0 at the end and for what is no character of a text. */
        private char peek() {
            while (i < text.length() && text.charAt(i) == ' ') {
                i++;
            }
            if (i == text.length()) {
                return 0;
            }
            return text.charAt(i) == 0 ? '#' : text.charAt(i);
        }

        private void sign(char wanted) {
            if (peek() != wanted) {
                throw new Fault(1, i);
            }
            i++;
        }

        private String run(String signs) {
            peek();
            int from = i;
            while (i < text.length() && signs.indexOf(text.charAt(i)) >= 0) {
                i++;
            }
            return text.substring(from, i);
        }

        private String word() {
            return run("abcdefghijklmnopqrstuvwxyz");
        }

        private int number(int least, int most) {
            peek();
            int from = i;
            String digits = run("0123456789");
            if (digits.isEmpty()) {
                throw new Fault(1, from);
            }
            BigInteger read = new BigInteger(digits);
            if (read.compareTo(BigInteger.valueOf(least)) < 0 || read.compareTo(BigInteger.valueOf(most)) > 0) {
                throw new Fault(2, from);
            }
            return read.intValue();
        }

        private void once(Object before, int from) {
            if (before != null) {
                throw new Fault(1, from);
            }
        }

        private void line() {
            peek();
            int from = i;
            switch (word()) {
                case "land":
                    land(from);
                    break;
                case "sleep":
                    sleep();
                    break;
                case "pays":
                    pays();
                    break;
                case "wait":
                    once(told.wait, from);
                    told.wait = number(0, 60);
                    break;
                case "letter":
                    once(told.letter, from);
                    told.letter = number(0, 999);
                    break;
                case "home":
                    once(told.home, from);
                    told.home = toldLand();
                    break;
                case "order":
                    once(told.order, from);
                    order();
                    break;
                default:
                    throw new Fault(1, from);
            }
        }

        private String name() {
            peek();
            int from = i;
            String name = word();
            if (name.isEmpty() || name.length() > 6 || WORDS.contains(name)) {
                throw new Fault(1, from);
            }
            return name;
        }

        private int find(String name) {
            for (int land = 0; land < told.lands.size(); land++) {
                if (told.lands.get(land).name.equals(name)) {
                    return land;
                }
            }
            return NONE;
        }

        private int toldLand() {
            peek();
            int from = i;
            int land = find(name());
            if (land == NONE) {
                throw new Fault(3, from);
            }
            return land;
        }

        private int kind() {
            peek();
            int from = i;
            int kind = KINDS.indexOf(word());
            if (kind < 0) {
                throw new Fault(1, from);
            }
            return kind;
        }

        private void land(int from) {
            if (told.lands.size() == 5) {
                throw new Fault(4, from);
            }
            peek();
            int place = i;
            LandTold land = new LandTold();
            land.name = name();
            if (find(land.name) != NONE) {
                throw new Fault(3, place);
            }
            land.month = number(0, 11);
            land.least = number(0, 9999);
            land.rate = number(0, 999);
            land.years = number(1, 50);
            told.lands.add(land);
        }

        private void pays() {
            peek();
            int from = i;
            int kind = kind();
            if (told.pays.containsKey(kind)) {
                throw new Fault(6, from);
            }
            told.pays.put(kind, number(0, 999));
        }

        private void order() {
            told.order = new ArrayList<>();
            do {
                peek();
                int from = i;
                String place = word();
                boolean one = place.equals("address") || place.equals("birth") || place.equals("home");
                if (!one || told.order.contains(place)) {
                    throw new Fault(1, from);
                }
                told.order.add(place);
            } while (peek() >= 'a' && peek() <= 'z');
        }

        private void sleep() {
            int kind = kind();
            peek();
            int from = i;
            String law = kind + " " + toldLand();
            if (told.laws.containsKey(law)) {
                throw new Fault(6, from);
            }
            told.laws.put(law, sum(0));
        }

        private static BigInteger bound(BigInteger one) {
            return one.min(MOST).max(MOST.negate());
        }

        private Tree sum(int open) {
            Tree left = product(open);
            while (peek() == '+' || peek() == '-') {
                boolean plus = text.charAt(i++) == '+';
                Tree a = left;
                Tree b = product(open);
                left = plus ? acc -> bound(a.of(acc).add(b.of(acc))) : acc -> bound(a.of(acc).subtract(b.of(acc)));
            }
            return left;
        }

        private Tree product(int open) {
            Tree left = factor(open);
            while (peek() == '*' || peek() == '/') {
                boolean times = text.charAt(i++) == '*';
                Tree a = left;
                Tree b = factor(open);
                left = times ? acc -> bound(a.of(acc).multiply(b.of(acc))) : acc -> divided(a.of(acc), b.of(acc));
            }
            return left;
        }

        private static BigInteger divided(BigInteger a, BigInteger b) {
            if (b.signum() == 0) {
                return BigInteger.ZERO;
            }
            BigInteger[] parts = a.divideAndRemainder(b);
            boolean below = parts[1].signum() != 0 && parts[1].signum() != b.signum();
            return bound(below ? parts[0].subtract(BigInteger.ONE) : parts[0]);
        }

        private void opening(int open) {
            if (peek() == '(' && open == 3) {
                throw new Fault(5, i);
            }
            sign('(');
        }

        private void must(String wanted) {
            peek();
            int from = i;
            if (!word().equals(wanted)) {
                throw new Fault(1, from);
            }
        }

        private Tree factor(int open) {
            char first = peek();
            int from = i;
            if (first >= '0' && first <= '9') {
                BigInteger n = BigInteger.valueOf(number(0, 999_999));
                return acc -> n;
            }
            if (first == '(') {
                opening(open);
                Tree inside = sum(open + 1);
                sign(')');
                return inside;
            }
            switch (word()) {
                case "cents":
                    return acc -> BigInteger.valueOf(acc.cents);
                case "age":
                    return acc -> BigInteger.valueOf(acc.now - acc.opened);
                case "since":
                    return acc -> BigInteger.valueOf(acc.now - acc.contacted);
                case "letters":
                    return acc -> BigInteger.valueOf(acc.letters);
                case "min":
                    opening(open);
                    Tree one = sum(open + 1);
                    sign(',');
                    Tree two = sum(open + 1);
                    sign(')');
                    return acc -> one.of(acc).min(two.of(acc));
                case "if":
                    return choice(open, from);
                default:
                    throw new Fault(1, from);
            }
        }

        private Tree choice(int open, int from) {
            if (open == 3) {
                throw new Fault(5, from);
            }
            Tree a = factor(open + 1);
            must("less");
            Tree b = factor(open + 1);
            must("then");
            Tree c = factor(open + 1);
            must("else");
            Tree d = factor(open + 1);
            return acc -> a.of(acc).compareTo(b.of(acc)) < 0 ? c.of(acc) : d.of(acc);
        }
    }
}
