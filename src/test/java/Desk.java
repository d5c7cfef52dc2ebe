import java.util.ArrayList;
import java.util.List;

/**
 * The face of one bank, as the tests use it. It counts the calls, since nothing is promised behind
 * the 512th, and notes those that can leave something behind, so that a twin can be made.
 */
final class Desk {
    static final int MOST_CALLS = 512;

    interface Step {
        long on(IdleMoney bank);
    }

    private final IdleMoney bank = new IdleMoney();
    private final List<Step> noted = new ArrayList<>();
    private int calls;

    /** A bank of its own that has seen the same calls; what was asked without an effect is left out. */
    Desk twin() {
        Desk twin = new Desk();
        for (Step step : noted) {
            try {
                twin.act(step);
            } catch (RuntimeException e) {
                continue;
            }
        }
        return twin;
    }

    int calls() {
        return calls;
    }

    private void count() {
        calls++;
        if (calls == MOST_CALLS + 1) {
            Bank.same("calls of one object, a fault of the test: call", calls, MOST_CALLS);
        }
    }

    private long act(Step step) {
        count();
        noted.add(step);
        return step.on(bank);
    }

    /** A question that is refused leaves a count behind. */
    private long ask(Step step) {
        count();
        noted.add(step);
        long answer = step.on(bank);
        noted.remove(noted.size() - 1);
        return answer;
    }

    int feed(int a, int b, int c, int d, int e) {
        return (int) act(x -> x.feed(a, b, c, d, e));
    }

    int text(int n) {
        return (int) act(x -> x.text(n));
    }

    int fault() {
        return (int) ask(x -> x.fault());
    }

    int open(int kind, int address, int birth, int cents) {
        return (int) act(x -> x.open(kind, address, birth, cents));
    }

    int contact(int account) {
        return (int) act(x -> x.contact(account));
    }

    int deposit(int account, int cents) {
        return (int) act(x -> x.deposit(account, cents));
    }

    int draw(int account, int cents) {
        return (int) act(x -> x.draw(account, cents));
    }

    int address(int account, int land) {
        return (int) act(x -> x.address(account, land));
    }

    int close(int account) {
        return (int) act(x -> x.close(account));
    }

    int months(int n) {
        return (int) act(x -> x.months(n));
    }

    long claim(int account) {
        return act(x -> x.claim(account));
    }

    int pass(int account) {
        return (int) act(x -> x.pass(account));
    }

    int undo() {
        return (int) act(x -> x.undo());
    }

    int told(int what) {
        return (int) ask(x -> x.told(what));
    }

    int land(int land, int what) {
        return (int) ask(x -> x.land(land, what));
    }

    long purse(int land, int what) {
        return ask(x -> x.purse(land, what));
    }

    int letter(int land, int i) {
        return (int) ask(x -> x.letter(land, i));
    }

    int pays(int kind) {
        return (int) ask(x -> x.pays(kind));
    }

    int account(int account, int what) {
        return (int) ask(x -> x.account(account, what));
    }

    int sleep(int account) {
        return (int) ask(x -> x.sleep(account));
    }

    int soon(int account) {
        return (int) ask(x -> x.soon(account));
    }

    long worth(int account, int n) {
        return ask(x -> x.worth(account, n));
    }

    int row(int k, int what) {
        return (int) ask(x -> x.row(k, what));
    }

    long ahead(int land, int n) {
        return ask(x -> x.ahead(land, n));
    }

    int letters(int n) {
        return (int) ask(x -> x.letters(n));
    }

    long rescue(int k, int n, int what) {
        return ask(x -> x.rescue(k, n, what));
    }

    long books(int what) {
        return ask(x -> x.books(what));
    }

    long print() {
        return ask(x -> x.print());
    }

    int status(int what) {
        return (int) ask(x -> x.status(what));
    }
}
