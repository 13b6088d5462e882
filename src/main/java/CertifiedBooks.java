/** Books of accounts that only certified procedures change; ../shared/DOC.md numbers what it promises. */
public final class CertifiedBooks {
    public static final int NONE = -1;

    private static final int ACCOUNTS = 8;
    private static final int USERS = 8;
    private static final int OFFICERS = 2;
    private static final int MOST_PROCEDURES = 10;
    private static final int MOST_LINES = 4;
    private static final int MOST_ENTRIES = 40;
    private static final int MOST_REQUESTS = 6;
    private static final int FIRST_REQUEST_ANSWER = 100;
    private static final int WHOLE_SHARE = 100;
    private static final long BALANCE_LIMIT = 1000000000000L;
    private static final long MOST_AMOUNT = 100000000000L;
    private static final long MOST_UNAPPROVED_AMOUNT = 10000L;
    private static final long MOST_TAMPERING = 1000000L;

    private final long[] balances = new long[ACCOUNTS];
    private final long[] floors = new long[ACCOUNTS];
    private final Procedure[] procedures = new Procedure[MOST_PROCEDURES];
    private int procedureCount = 0;
    private final Request[] requests = new Request[MOST_REQUESTS];
    private final Entry[] log = new Entry[MOST_ENTRIES];
    private int entryCount = 0;
    /** Row n holds what the first n entries posted to each account; rows above entryCount mean nothing. */
    private final long[][] totals = new long[MOST_ENTRIES + 1][ACCOUNTS];
    /** What the lines of the run at hand post; kept so that a run makes no array of its own. */
    private final long[] postings = new long[MOST_LINES];

    public CertifiedBooks() {
        for (int account = 0; account < ACCOUNTS; account++) {
            floors[account] = -BALANCE_LIMIT;
        }
        for (int i = 0; i < MOST_PROCEDURES; i++) {
            procedures[i] = new Procedure();
        }
        for (int i = 0; i < MOST_REQUESTS; i++) {
            requests[i] = new Request();
        }
        for (int i = 0; i < MOST_ENTRIES; i++) {
            log[i] = new Entry();
        }
    }

    public int draw(int account, int share)
            throws IndexOutOfBoundsException, IllegalArgumentException, IllegalStateException {
        requireAccount(account);
        requireShare(share);
        if (procedureCount >= MOST_PROCEDURES) {
            throw new IllegalStateException("there are as many procedures as may be");
        }
        int number = procedureCount;
        procedures[number].appendLine(account, share);
        procedureCount++;
        return number;
    }

    public int add(int procedure, int account, int share)
            throws IndexOutOfBoundsException, IllegalArgumentException, IllegalStateException {
        requireProcedure(procedure);
        requireAccount(account);
        requireShare(share);
        Procedure changed = procedures[procedure];
        if (changed.hasLineFor(account)) {
            throw new IllegalArgumentException("a line has the account");
        }
        if (changed.isCertified() || changed.lineCount >= MOST_LINES) {
            throw new IllegalStateException("the procedure takes no more lines");
        }
        changed.appendLine(account, share);
        return changed.lineCount;
    }

    public void certify(int user, int procedure)
            throws IndexOutOfBoundsException, UnsupportedOperationException, IllegalStateException {
        requireUser(user);
        requireProcedure(procedure);
        requireOfficer(user);
        Procedure certified = procedures[procedure];
        if (certified.isCertified() || certified.lineCount < 2 || certified.shareSum() != 0) {
            throw new IllegalStateException("the procedure can't be certified");
        }
        certified.certifier = user;
    }

    public boolean grant(int officer, int user, int procedure, boolean may)
            throws IndexOutOfBoundsException, UnsupportedOperationException {
        requireUser(officer);
        requireUser(user);
        requireProcedure(procedure);
        requireOfficer(officer);
        if (officer == user) {
            throw new UnsupportedOperationException("no officer grants to themselves");
        }
        Procedure granted = procedures[procedure];
        boolean changes = granted.grants[user] != may;
        granted.grants[user] = may;
        return changes;
    }

    public long floor(int officer, int account, long floor)
            throws IndexOutOfBoundsException, UnsupportedOperationException, IllegalArgumentException {
        requireUser(officer);
        requireAccount(account);
        requireOfficer(officer);
        if (isBeyondLimit(floor)) {
            throw new IllegalArgumentException("no such floor");
        }
        long before = floors[account];
        floors[account] = floor;
        return before;
    }

    public int ask(int user, int procedure, long amount)
            throws IndexOutOfBoundsException, UnsupportedOperationException, IllegalArgumentException,
            IllegalStateException {
        requireUser(user);
        requireProcedure(procedure);
        requireMayRun(user, procedure);
        if (amount < 1 || amount > MOST_AMOUNT) {
            throw new IllegalArgumentException("no such amount");
        }
        requireBooksTakeRun();
        if (amount > MOST_UNAPPROVED_AMOUNT) {
            return FIRST_REQUEST_ANSWER + fileRequest(user, procedure, amount);
        }
        return runAndLog(procedure, amount, user, NONE, NONE);
    }

    public int approve(int user, int request)
            throws IndexOutOfBoundsException, UnsupportedOperationException, IllegalStateException {
        requireUser(user);
        requireRequest(request);
        Request approved = requests[request];
        if (!mayApprove(user, approved)) {
            throw new UnsupportedOperationException("the user may not approve the request");
        }
        requireMayRun(approved.asker, approved.procedure);
        requireBooksTakeRun();
        int number = runAndLog(approved.procedure, approved.amount, approved.asker, user, NONE);
        approved.clear();
        return number;
    }

    public void withdraw(int user, int request)
            throws IndexOutOfBoundsException, UnsupportedOperationException {
        requireUser(user);
        requireRequest(request);
        Request withdrawn = requests[request];
        if (withdrawn.asker != user && !mayApprove(user, withdrawn)) {
            throw new UnsupportedOperationException("the user may not withdraw the request");
        }
        withdrawn.clear();
    }

    public int reverse(int user, int entry)
            throws IndexOutOfBoundsException, UnsupportedOperationException, IllegalStateException {
        requireUser(user);
        requireEntry(entry);
        Entry reversed = log[entry];
        requireMayRun(user, reversed.procedure);
        if (reversed.asker == user) {
            throw new UnsupportedOperationException("the user asked for the entry");
        }
        if (reversed.reversalOf != NONE || reversed.reversedBy != NONE) {
            throw new IllegalStateException("the entry is a reversal or reversed");
        }
        requireBooksTakeRun();
        int number = runAndLog(reversed.procedure, reversed.amount, user, NONE, entry);
        reversed.reversedBy = number;
        return number;
    }

    public long tamper(int account, long by)
            throws IndexOutOfBoundsException, IllegalArgumentException, IllegalStateException {
        requireAccount(account);
        if (by < -MOST_TAMPERING || by > MOST_TAMPERING) {
            throw new IllegalArgumentException("more than can be tampered with at once");
        }
        long changed = balances[account] + by;
        if (isBeyondLimit(changed)) {
            throw new IllegalStateException("no such balance");
        }
        balances[account] = changed;
        return changed;
    }

    public boolean sound() {
        return countUnsoundBalances() == 0;
    }

    public int restore(int user) throws IndexOutOfBoundsException, UnsupportedOperationException {
        requireUser(user);
        requireOfficer(user);
        int changed = countUnsoundBalances();
        for (int account = 0; account < ACCOUNTS; account++) {
            balances[account] = totals[entryCount][account];
        }
        return changed;
    }

    public long balance(int account) throws IndexOutOfBoundsException {
        requireAccount(account);
        return balances[account];
    }

    public long balanceAt(int account, int n) throws IndexOutOfBoundsException {
        requireAccount(account);
        if (n < 0 || n > entryCount) {
            throw new IndexOutOfBoundsException("there are not so many entries");
        }
        return totals[n][account];
    }

    public int entries() {
        return entryCount;
    }

    public int entry(int entry, int what) throws IndexOutOfBoundsException {
        requireEntry(entry);
        Entry told = log[entry];
        switch (what) {
            case 0:
                return told.procedure;
            case 1:
                return told.asker;
            case 2:
                return told.approver;
            case 3:
                return told.reversalOf;
            case 4:
                return told.reversedBy;
            default:
                throw new IndexOutOfBoundsException("an entry has nothing of that number");
        }
    }

    public long amount(int entry) throws IndexOutOfBoundsException {
        requireEntry(entry);
        return log[entry].amount;
    }

    public int requested(int request) throws IndexOutOfBoundsException {
        if (request < 0 || request >= MOST_REQUESTS) {
            throw new IndexOutOfBoundsException("no request has that number");
        }
        return requests[request].asker;
    }

    public boolean mayRun(int user, int procedure) {
        if (!isUser(user) || !isProcedure(procedure)) {
            return false;
        }
        Procedure run = procedures[procedure];
        return run.isCertified() && run.certifier != user && run.grants[user];
    }

    private boolean mayApprove(int user, Request request) {
        return mayRun(user, request.procedure) && request.asker != user;
    }

    private int fileRequest(int user, int procedure, long amount) {
        for (int number = 0; number < MOST_REQUESTS; number++) {
            if (!requests[number].isInUse()) {
                requests[number].fill(user, procedure, amount);
                return number;
            }
        }
        throw new IllegalStateException("there are as many requests as may be");
    }

    /** Runs a procedure, backwards if the run is a reversal, and answers the number of its new entry. */
    private int runAndLog(int procedure, long amount, int asker, int approver, int reversalOf) {
        Procedure run = procedures[procedure];
        run.computePostings(amount, postings);
        if (reversalOf != NONE) {
            negatePostings();
        }
        requireNoLineFails(run);
        int number = entryCount;
        System.arraycopy(totals[number], 0, totals[number + 1], 0, ACCOUNTS);
        for (int line = 0; line < run.lineCount; line++) {
            int account = run.accounts[line];
            balances[account] += postings[line];
            totals[number + 1][account] += postings[line];
        }
        log[number].fill(procedure, amount, asker, approver, reversalOf);
        entryCount++;
        return number;
    }

    private void negatePostings() {
        for (int line = 0; line < MOST_LINES; line++) {
            postings[line] = -postings[line];
        }
    }

    /** Every line has an account of its own, so that all lines can be tried before any of them posts. */
    private void requireNoLineFails(Procedure run) {
        for (int line = 0; line < run.lineCount; line++) {
            int account = run.accounts[line];
            long before = balances[account];
            long after = before + postings[line];
            if (after > BALANCE_LIMIT || (after < floors[account] && after < before)) {
                throw new IllegalStateException("the run fails");
            }
        }
    }

    private int countUnsoundBalances() {
        int count = 0;
        for (int account = 0; account < ACCOUNTS; account++) {
            if (balances[account] != totals[entryCount][account]) {
                count++;
            }
        }
        return count;
    }

    private void requireBooksTakeRun() {
        if (countUnsoundBalances() != 0) {
            throw new IllegalStateException("the books are not sound");
        }
        if (entryCount >= MOST_ENTRIES) {
            throw new IllegalStateException("the log is full");
        }
    }

    private void requireMayRun(int user, int procedure) {
        if (!mayRun(user, procedure)) {
            throw new UnsupportedOperationException("the user may not run the procedure");
        }
    }

    private void requireProcedure(int procedure) {
        if (!isProcedure(procedure)) {
            throw new IndexOutOfBoundsException("no such procedure");
        }
    }

    private void requireRequest(int request) {
        if (request < 0 || request >= MOST_REQUESTS || !requests[request].isInUse()) {
            throw new IndexOutOfBoundsException("no such request");
        }
    }

    private void requireEntry(int entry) {
        if (entry < 0 || entry >= entryCount) {
            throw new IndexOutOfBoundsException("no such entry");
        }
    }

    private boolean isProcedure(int procedure) {
        return procedure >= 0 && procedure < procedureCount;
    }

    private static boolean isUser(int user) {
        return user >= 0 && user < USERS;
    }

    private static boolean isBeyondLimit(long balance) {
        return balance < -BALANCE_LIMIT || balance > BALANCE_LIMIT;
    }

    private static void requireAccount(int account) {
        if (account < 0 || account >= ACCOUNTS) {
            throw new IndexOutOfBoundsException("no such account");
        }
    }

    private static void requireUser(int user) {
        if (!isUser(user)) {
            throw new IndexOutOfBoundsException("no such user");
        }
    }

    private static void requireOfficer(int user) {
        if (user >= OFFICERS) {
            throw new UnsupportedOperationException("the user is no officer");
        }
    }

    private static void requireShare(int share) {
        if (share < -WHOLE_SHARE || share > WHOLE_SHARE || share == 0) {
            throw new IllegalArgumentException("no such share");
        }
    }

    /** A procedure; one that is not drawn up yet has no lines. */
    private static final class Procedure {
        private final int[] accounts = new int[MOST_LINES];
        private final int[] shares = new int[MOST_LINES];
        private int lineCount = 0;
        private int certifier = NONE;
        private final boolean[] grants = new boolean[USERS];

        private boolean isCertified() {
            return certifier != NONE;
        }

        private boolean hasLineFor(int account) {
            for (int line = 0; line < lineCount; line++) {
                if (accounts[line] == account) {
                    return true;
                }
            }
            return false;
        }

        private void appendLine(int account, int share) {
            accounts[lineCount] = account;
            shares[lineCount] = share;
            lineCount++;
        }

        private int shareSum() {
            int sum = 0;
            for (int line = 0; line < lineCount; line++) {
                sum += shares[line];
            }
            return sum;
        }

        private void computePostings(long amount, long[] postings) {
            long sum = 0;
            for (int line = 0; line < lineCount - 1; line++) {
                postings[line] = amount * shares[line] / WHOLE_SHARE;
                sum += postings[line];
            }
            postings[lineCount - 1] = -sum;
        }
    }

    /** The row of one request number; it is not in use while nobody asks for it. */
    private static final class Request {
        private int asker = NONE;
        private int procedure = NONE;
        private long amount = 0;

        private boolean isInUse() {
            return asker != NONE;
        }

        private void fill(int newAsker, int newProcedure, long newAmount) {
            asker = newAsker;
            procedure = newProcedure;
            amount = newAmount;
        }

        private void clear() {
            asker = NONE;
        }
    }

    /** The row of one entry of the log. */
    private static final class Entry {
        private int procedure = NONE;
        private long amount = 0;
        private int asker = NONE;
        private int approver = NONE;
        private int reversalOf = NONE;
        private int reversedBy = NONE;

        private void fill(int newProcedure, long newAmount, int newAsker, int newApprover, int newReversalOf) {
            procedure = newProcedure;
            amount = newAmount;
            asker = newAsker;
            approver = newApprover;
            reversalOf = newReversalOf;
        }
    }
}
