/** Long runs of arbitrary calls, the same ones every time, each answer compared with the reference's. */
public final class ReferenceTest {
    private static final int RUNS = 3000;
    private static final int CALLS = 512;
    private static final int READS_OF_ALL = 150;
    private static final int[] EXTREMES = {-1, 8, 40, Integer.MIN_VALUE, Integer.MAX_VALUE};

    private final CertifiedBooks books = new CertifiedBooks();
    private final ReferenceBooks reference = new ReferenceBooks();
    private final int run;
    private int calls = 0;
    private int drawn = 0;
    private int prepared = 0;
    private long state;

    private ReferenceTest(int run) {
        this.run = run;
        this.state = run * 0x9E3779B97F4A7C15L + 1;
    }

    public static void main(String[] args) {
        for (int run = 0; run < RUNS; run++) {
            new ReferenceTest(run).compareRun();
        }
        Check.end();
    }

    private void compareRun() {
        int procedures = next(4);
        for (int i = 0; i < procedures; i++) {
            drawUpProcedure();
        }
        prepared = procedures;
        while (calls < CALLS - READS_OF_ALL) {
            change();
            if (next(3) == 0) {
                read();
            }
        }
        readAll();
    }

    /** A procedure that can be run, so that not every run has to find one by chance. */
    private void drawUpProcedure() {
        int procedure = drawn;
        int first = next(8);
        int lines = 2 + next(3);
        int sum = nextShare();
        draw(first, sum);
        for (int line = 1; line < lines - 1; line++) {
            int share = sum > 0 ? -1 - next(sum) : 1 + next(-sum);
            if (sum + share == 0) {
                break;
            }
            add(procedure, (first + line) % 8, share);
            sum += share;
        }
        add(procedure, (first + 7) % 8, -sum);
        certify(next(2), procedure);
        for (int i = 0; i < 5; i++) {
            grant(next(2), next(8), procedure, true);
        }
    }

    private void change() {
        switch (next(24)) {
            case 0 -> draw(account(), share());
            case 1 -> add(procedure(), account(), share());
            case 2 -> certify(next(4) == 0 ? user() : next(2), procedure());
            case 3, 4, 5 -> grant(next(4) == 0 ? user() : next(2), user(), procedure(), next(4) > 0);
            case 6 -> floor(next(4) == 0 ? user() : next(2), account(), floor());
            case 7 -> tamper(account(), by());
            case 8, 9, 10 -> restore(next(4) == 0 ? user() : next(2));
            case 11, 12, 13, 14 -> approve(runner(procedure()), request());
            case 15 -> withdraw(user(), request());
            case 16, 17 -> reverse(runner(procedure()), entry());
            default -> askForRun();
        }
    }

    private void askForRun() {
        int procedure = procedure();
        ask(runner(procedure), procedure, amount());
    }

    private void read() {
        switch (next(8)) {
            case 0 -> compareBalance(account());
            case 1 -> compareBalanceAt(account(), next(8) == 0 ? extreme() : next(reference.entries() + 2));
            case 2 -> compareEntries();
            case 3 -> compareEntry(entry(), next(8) == 0 ? extreme() : next(6) - next(2));
            case 4 -> compareAmount(entry());
            case 5 -> compareRequested(request());
            case 6 -> compareMayRun(user(), procedure());
            default -> compareSound();
        }
    }

    private void readAll() {
        compareSound();
        compareEntries();
        for (int i = 0; i < 8; i++) {
            compareBalance(i);
            compareBalanceAt(i, reference.entries());
        }
        for (int i = 0; i < 6; i++) {
            compareRequested(i);
        }
        for (int i = 0; i < 40; i++) {
            compareAmount(i);
            compareEntry(i, 3);
            compareEntry(i, 4);
        }
        check(calls <= CALLS);
    }

    private void draw(int account, int share) {
        Object due = compare("draw(" + account + ", " + share + ")",
                () -> reference.draw(account, share), () -> books.draw(account, share));
        drawn += due instanceof Long ? 1 : 0;
    }

    private void add(int procedure, int account, int share) {
        compare("add(" + procedure + ", " + account + ", " + share + ")",
                () -> reference.add(procedure, account, share), () -> books.add(procedure, account, share));
    }

    private void certify(int user, int procedure) {
        compare("certify(" + user + ", " + procedure + ")",
                done(() -> reference.certify(user, procedure)), done(() -> books.certify(user, procedure)));
    }

    private void grant(int officer, int user, int procedure, boolean may) {
        compare("grant(" + officer + ", " + user + ", " + procedure + ", " + may + ")",
                () -> reference.grant(officer, user, procedure, may),
                () -> books.grant(officer, user, procedure, may));
    }

    private void floor(int officer, int account, long floor) {
        compare("floor(" + officer + ", " + account + ", " + floor + ")",
                () -> reference.floor(officer, account, floor), () -> books.floor(officer, account, floor));
    }

    private void ask(int user, int procedure, long amount) {
        compare("ask(" + user + ", " + procedure + ", " + amount + ")",
                () -> reference.ask(user, procedure, amount), () -> books.ask(user, procedure, amount));
    }

    private void approve(int user, int request) {
        compare("approve(" + user + ", " + request + ")",
                () -> reference.approve(user, request), () -> books.approve(user, request));
    }

    private void withdraw(int user, int request) {
        compare("withdraw(" + user + ", " + request + ")",
                done(() -> reference.withdraw(user, request)), done(() -> books.withdraw(user, request)));
    }

    private void reverse(int user, int entry) {
        compare("reverse(" + user + ", " + entry + ")",
                () -> reference.reverse(user, entry), () -> books.reverse(user, entry));
    }

    private void tamper(int account, long by) {
        compare("tamper(" + account + ", " + by + ")",
                () -> reference.tamper(account, by), () -> books.tamper(account, by));
    }

    private void restore(int user) {
        compare("restore(" + user + ")", () -> reference.restore(user), () -> books.restore(user));
    }

    private void compareSound() {
        compare("sound()", reference::sound, books::sound);
    }

    private void compareBalance(int account) {
        compare("balance(" + account + ")", () -> reference.balance(account), () -> books.balance(account));
    }

    private void compareBalanceAt(int account, int n) {
        compare("balanceAt(" + account + ", " + n + ")",
                () -> reference.balanceAt(account, n), () -> books.balanceAt(account, n));
    }

    private void compareEntries() {
        compare("entries()", reference::entries, books::entries);
    }

    private void compareEntry(int entry, int what) {
        compare("entry(" + entry + ", " + what + ")",
                () -> reference.entry(entry, what), () -> books.entry(entry, what));
    }

    private void compareAmount(int entry) {
        compare("amount(" + entry + ")", () -> reference.amount(entry), () -> books.amount(entry));
    }

    private void compareRequested(int request) {
        compare("requested(" + request + ")", () -> reference.requested(request), () -> books.requested(request));
    }

    private void compareMayRun(int user, int procedure) {
        compare("mayRun(" + user + ", " + procedure + ")",
                () -> reference.mayRun(user, procedure), () -> books.mayRun(user, procedure));
    }

    private Object compare(String call, Check.Call due, Check.Call got) {
        calls++;
        Object outcome = Check.outcome(due);
        Check.compare("run " + run + ", call " + calls + ": " + call, outcome, Check.outcome(got));
        return outcome;
    }

    private static Check.Call done(Check.Deed deed) {
        return () -> {
            deed.happen();
            return "done";
        };
    }

    private void check(boolean holds) {
        Check.compare("run " + run + " keeps to the calls of an object", true, holds);
    }

    private int user() {
        return next(30) == 0 ? extreme() : next(8);
    }

    private int account() {
        return next(30) == 0 ? extreme() : next(8);
    }

    /** Most often a user who may run the procedure. */
    private int runner(int procedure) {
        int first = next(8);
        for (int i = 0; i < 8 && next(8) > 0; i++) {
            int user = (first + i) % 8;
            if (reference.mayRun(user, procedure)) {
                return user;
            }
        }
        return user();
    }

    private int procedure() {
        if (prepared > 0 && next(3) > 0) {
            return next(prepared);
        }
        return next(30) == 0 ? extreme() : next(drawn + (next(8) == 0 ? 1 : 0));
    }

    private int request() {
        return next(30) == 0 ? extreme() : next(next(4) == 0 ? 7 : 3);
    }

    private int entry() {
        return next(30) == 0 ? extreme() : next(reference.entries() + (next(8) == 0 ? 1 : 0));
    }

    private int share() {
        return next(20) == 0 ? new int[] {0, 101, -101, Integer.MIN_VALUE}[next(4)] : nextShare();
    }

    private int nextShare() {
        int size = next(3) == 0 ? 100 : 1 + next(100);
        return next(2) == 0 ? size : -size;
    }

    private long amount() {
        return switch (next(12)) {
            case 0 -> new long[] {0, -1, Books.MOST + 1, Long.MIN_VALUE, Long.MAX_VALUE}[next(5)];
            case 1, 2 -> 9999 + next(4);
            case 3, 4 -> Books.MOST - next(3);
            case 5 -> 1 + next(3);
            case 6, 7 -> 10001 + (long) next(1000000) * next(100000);
            default -> 1 + next(10000);
        };
    }

    private long floor() {
        long near = reference.balance(next(8));
        return switch (next(6)) {
            case 0 -> new long[] {-Books.LIMIT - 1, Books.LIMIT + 1, Long.MIN_VALUE, Books.LIMIT}[next(4)];
            case 1 -> near + next(3) - 1;
            case 2 -> near - next(20000);
            default -> -Books.LIMIT;
        };
    }

    private long by() {
        return switch (next(6)) {
            case 0 -> new long[] {-1000001, 1000001, Long.MIN_VALUE, Long.MAX_VALUE}[next(4)];
            case 1 -> next(2) == 0 ? 1000000 : -1000000;
            case 2 -> 0;
            default -> next(2001) - 1000;
        };
    }

    private int extreme() {
        return EXTREMES[next(EXTREMES.length)];
    }

    /** 0 .. bound - 1, or 0 if there is none below bound. */
    private int next(int bound) {
        state = state * 6364136223846793005L + 1442695040888963407L;
        return bound <= 0 ? 0 : (int) ((state >>> 33) % bound);
    }
}
