import java.util.ArrayList;
import java.util.HashSet;
import java.util.List;
import java.util.Set;
import java.util.TreeMap;

/** What the document says, word by word: lines post one after the other, and the log is added up at every call. */
final class ReferenceBooks {
    private static final long LIMIT = 1000000000000L;

    private record Line(int account, int share) {
    }

    private record Request(int procedure, long amount, int asked) {
    }

    private record Entry(int procedure, long amount, int asked, int approved, int reversalOf) {
    }

    private static final class Procedure {
        final List<Line> lines = new ArrayList<>();
        final Set<Integer> granted = new HashSet<>();
        int certifiedBy = -1;
    }

    private final List<Procedure> procedures = new ArrayList<>();
    private final List<Entry> log = new ArrayList<>();
    private final TreeMap<Integer, Request> requests = new TreeMap<>();
    private long[] balances = new long[8];
    private final long[] floors = {-LIMIT, -LIMIT, -LIMIT, -LIMIT, -LIMIT, -LIMIT, -LIMIT, -LIMIT};

    int draw(int account, int share) {
        unknownUnless(0 <= account && account <= 7);
        argumentUnless(-100 <= share && share <= 100 && share != 0);
        stateUnless(procedures.size() != 10);
        Procedure drawn = new Procedure();
        drawn.lines.add(new Line(account, share));
        procedures.add(drawn);
        return procedures.size() - 1;
    }

    int add(int procedure, int account, int share) {
        unknownUnless(0 <= procedure && procedure < procedures.size());
        unknownUnless(0 <= account && account <= 7);
        argumentUnless(-100 <= share && share <= 100 && share != 0);
        Procedure changed = procedures.get(procedure);
        argumentUnless(changed.lines.stream().noneMatch(line -> line.account == account));
        stateUnless(changed.certifiedBy == -1);
        stateUnless(changed.lines.size() != 4);
        changed.lines.add(new Line(account, share));
        return changed.lines.size();
    }

    void certify(int user, int procedure) {
        unknownUnless(0 <= user && user <= 7);
        unknownUnless(0 <= procedure && procedure < procedures.size());
        unsupportedIf(user != 0 && user != 1);
        Procedure certified = procedures.get(procedure);
        stateUnless(certified.certifiedBy == -1);
        stateUnless(certified.lines.size() != 1);
        stateUnless(certified.lines.stream().mapToInt(Line::share).sum() == 0);
        certified.certifiedBy = user;
    }

    boolean grant(int officer, int user, int procedure, boolean may) {
        unknownUnless(0 <= officer && officer <= 7);
        unknownUnless(0 <= user && user <= 7);
        unknownUnless(0 <= procedure && procedure < procedures.size());
        unsupportedIf(officer != 0 && officer != 1);
        unsupportedIf(officer == user);
        Set<Integer> granted = procedures.get(procedure).granted;
        return may ? granted.add(user) : granted.remove(user);
    }

    long floor(int officer, int account, long floor) {
        unknownUnless(0 <= officer && officer <= 7);
        unknownUnless(0 <= account && account <= 7);
        unsupportedIf(officer != 0 && officer != 1);
        argumentUnless(-LIMIT <= floor && floor <= LIMIT);
        long before = floors[account];
        floors[account] = floor;
        return before;
    }

    int ask(int user, int procedure, long amount) {
        unknownUnless(0 <= user && user <= 7);
        unknownUnless(0 <= procedure && procedure < procedures.size());
        unsupportedIf(!mayRun(user, procedure));
        argumentUnless(1 <= amount && amount <= 100000000000L);
        stateUnless(sound());
        stateUnless(log.size() != 40);
        if (amount <= 10000) {
            return run(new Entry(procedure, amount, user, -1, -1));
        }
        stateUnless(requests.size() != 6);
        int number = 0;
        while (requests.containsKey(number)) {
            number++;
        }
        requests.put(number, new Request(procedure, amount, user));
        return 100 + number;
    }

    int approve(int user, int request) {
        unknownUnless(0 <= user && user <= 7);
        unknownUnless(requests.containsKey(request));
        Request approved = requests.get(request);
        unsupportedIf(!mayApprove(user, approved));
        unsupportedIf(!mayRun(approved.asked, approved.procedure));
        stateUnless(sound());
        stateUnless(log.size() != 40);
        int number = run(new Entry(approved.procedure, approved.amount, approved.asked, user, -1));
        requests.remove(request);
        return number;
    }

    void withdraw(int user, int request) {
        unknownUnless(0 <= user && user <= 7);
        unknownUnless(requests.containsKey(request));
        Request withdrawn = requests.get(request);
        unsupportedIf(withdrawn.asked != user && !mayApprove(user, withdrawn));
        requests.remove(request);
    }

    int reverse(int user, int entry) {
        unknownUnless(0 <= user && user <= 7);
        unknownUnless(0 <= entry && entry < log.size());
        Entry reversed = log.get(entry);
        unsupportedIf(!mayRun(user, reversed.procedure));
        unsupportedIf(reversed.asked == user);
        stateUnless(reversed.reversalOf == -1);
        stateUnless(reversalOf(entry) == -1);
        stateUnless(sound());
        stateUnless(log.size() != 40);
        return run(new Entry(reversed.procedure, reversed.amount, user, -1, entry));
    }

    long tamper(int account, long by) {
        unknownUnless(0 <= account && account <= 7);
        argumentUnless(-1000000 <= by && by <= 1000000);
        stateUnless(Math.abs(balances[account] + by) <= LIMIT);
        return balances[account] += by;
    }

    boolean sound() {
        return wrongBalances() == 0;
    }

    int restore(int user) {
        unknownUnless(0 <= user && user <= 7);
        unsupportedIf(user != 0 && user != 1);
        int wrong = wrongBalances();
        for (int account = 0; account < 8; account++) {
            balances[account] = balanceAt(account, log.size());
        }
        return wrong;
    }

    long balance(int account) {
        unknownUnless(0 <= account && account <= 7);
        return balances[account];
    }

    long balanceAt(int account, int n) {
        unknownUnless(0 <= account && account <= 7);
        unknownUnless(0 <= n && n <= log.size());
        long sum = 0;
        for (Entry entry : log.subList(0, n)) {
            List<Line> lines = procedures.get(entry.procedure).lines;
            long[] posted = posted(entry);
            for (int i = 0; i < lines.size(); i++) {
                sum += lines.get(i).account == account ? posted[i] : 0;
            }
        }
        return sum;
    }

    int entries() {
        return log.size();
    }

    int entry(int entry, int what) {
        unknownUnless(0 <= entry && entry < log.size());
        unknownUnless(0 <= what && what <= 4);
        Entry told = log.get(entry);
        return new int[] {told.procedure, told.asked, told.approved, told.reversalOf, reversalOf(entry)}[what];
    }

    long amount(int entry) {
        unknownUnless(0 <= entry && entry < log.size());
        return log.get(entry).amount;
    }

    int requested(int request) {
        unknownUnless(0 <= request && request <= 5);
        return requests.containsKey(request) ? requests.get(request).asked : -1;
    }

    boolean mayRun(int user, int procedure) {
        if (user < 0 || user > 7 || procedure < 0 || procedure >= procedures.size()) {
            return false;
        }
        Procedure run = procedures.get(procedure);
        return run.certifiedBy != -1 && run.certifiedBy != user && run.granted.contains(user);
    }

    private boolean mayApprove(int user, Request request) {
        return mayRun(user, request.procedure) && user != request.asked;
    }

    private int run(Entry entry) {
        List<Line> lines = procedures.get(entry.procedure).lines;
        long[] posted = posted(entry);
        long[] after = balances.clone();
        for (int i = 0; i < lines.size(); i++) {
            int account = lines.get(i).account;
            long was = after[account];
            after[account] += posted[i];
            stateUnless(after[account] <= LIMIT);
            stateUnless(after[account] >= floors[account] || after[account] >= was);
        }
        balances = after;
        log.add(entry);
        return log.size() - 1;
    }

    private long[] posted(Entry entry) {
        List<Line> lines = procedures.get(entry.procedure).lines;
        long[] posted = new long[lines.size()];
        int last = posted.length - 1;
        for (int i = 0; i < last; i++) {
            long hundredths = entry.amount * Math.abs(lines.get(i).share);
            posted[i] = (hundredths - hundredths % 100) / 100 * Integer.signum(lines.get(i).share);
            posted[last] -= posted[i];
        }
        for (int i = 0; i <= last; i++) {
            posted[i] *= entry.reversalOf == -1 ? 1 : -1;
        }
        return posted;
    }

    private int reversalOf(int entry) {
        for (int number = 0; number < log.size(); number++) {
            if (log.get(number).reversalOf == entry) {
                return number;
            }
        }
        return -1;
    }

    private int wrongBalances() {
        int wrong = 0;
        for (int account = 0; account < 8; account++) {
            wrong += balances[account] == balanceAt(account, log.size()) ? 0 : 1;
        }
        return wrong;
    }

    private static void unknownUnless(boolean holds) {
        if (!holds) {
            throw new IndexOutOfBoundsException();
        }
    }

    private static void argumentUnless(boolean holds) {
        if (!holds) {
            throw new IllegalArgumentException();
        }
    }

    private static void stateUnless(boolean holds) {
        if (!holds) {
            throw new IllegalStateException();
        }
    }

    private static void unsupportedIf(boolean holds) {
        if (holds) {
            throw new UnsupportedOperationException();
        }
    }
}
