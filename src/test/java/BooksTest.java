/** Promises 11 to 18: balances and the log, and how the one is checked against the other. */
public final class BooksTest {
    public static void main(String[] args) {
        tamper();
        tamperRefuses();
        tamperUpToLimit();
        tamperDownToLimit();
        sound();
        soundWithReversals();
        restore();
        restoreNewBooks();
        restoreBelowFloor();
        restoreRefuses();
        balance();
        balanceAt();
        balanceAtRefuses();
        entries();
        entry();
        entryRefuses();
        amount();
        Check.end();
    }

    private static void tamper() {
        CertifiedBooks books = Books.withTransferRun(1);
        Check.answers("11: the most", 1010000, () -> books.tamper(0, 1000000));
        Check.answers("11: the least", 10000, () -> books.tamper(0, -1000000));
        Check.answers("11: by nothing", 10000, () -> books.tamper(0, 0));
        books.floor(0, 7, 0);
        Check.answers("11: below the floor", -5, () -> books.tamper(7, -5));
        Check.answers("11: the balance", -5, () -> books.balance(7));
        Check.answers("11: no other", -10000, () -> books.balance(1));
        Check.answers("11: no entry of it", 1, books::entries);
        Check.answers("11: the log stays", 0, () -> books.balanceAt(7, 1));
    }

    private static void tamperRefuses() {
        CertifiedBooks books = new CertifiedBooks();
        for (int account : new int[] {-1, 8, Integer.MIN_VALUE, Integer.MAX_VALUE}) {
            Check.refuses("11: account " + account, Check.UNKNOWN, () -> books.tamper(account, 1));
        }
        for (long by : new long[] {-1000001, 1000001, Long.MIN_VALUE, Long.MAX_VALUE}) {
            Check.refuses("11: by " + by, Check.ARGUMENT, () -> books.tamper(0, by));
        }
        Check.refuses("11: account before by", Check.UNKNOWN, () -> books.tamper(8, 1000001));
        Check.answers("11: nothing was changed", true, books::sound);
    }

    private static void tamperUpToLimit() {
        CertifiedBooks books = Books.withTransfer();
        Books.bringMost(books, 10);
        Check.refuses("11: above", Check.STATE, () -> books.tamper(0, 1));
        Check.refuses("11: by before above", Check.ARGUMENT, () -> books.tamper(0, 1000001));
        Check.answers("11: below", Books.LIMIT - 3, () -> books.tamper(0, -3));
        Check.refuses("11: one above", Check.STATE, () -> books.tamper(0, 4));
        Check.answers("11: up to it", Books.LIMIT, () -> books.tamper(0, 3));
    }

    private static void tamperDownToLimit() {
        CertifiedBooks books = Books.withTransfer();
        Books.bringMost(books, 10);
        Check.refuses("11: below", Check.STATE, () -> books.tamper(1, -1));
        Check.refuses("11: by before below", Check.ARGUMENT, () -> books.tamper(1, -1000001));
        Check.answers("11: above", 3 - Books.LIMIT, () -> books.tamper(1, 3));
        Check.refuses("11: one below", Check.STATE, () -> books.tamper(1, -4));
        Check.answers("11: down to it", -Books.LIMIT, () -> books.tamper(1, -3));
        Check.answers("11: as it was", true, books::sound);
    }

    private static void sound() {
        CertifiedBooks books = Books.withTransferRun(2);
        Check.answers("12: after runs", true, books::sound);
        for (int i = 0; i < 8; i++) {
            int account = i;
            books.tamper(account, 1);
            Check.answers("12: tampered with", false, books::sound);
            books.tamper(account, -1);
            Check.answers("12: tampered back", true, books::sound);
        }
        books.tamper(0, 1);
        books.tamper(1, -1);
        Check.answers("12: the sum of all is 0", false, books::sound);
        books.tamper(1, 1);
        Check.answers("12: one is still wrong", false, books::sound);
        books.restore(0);
        Check.answers("12: restored", true, books::sound);
    }

    private static void soundWithReversals() {
        CertifiedBooks books = Books.withTransferRun(2);
        books.reverse(3, 0);
        Check.answers("12: after a reversal", true, books::sound);
        books.tamper(0, 10000);
        books.tamper(1, -10000);
        Check.answers("12: as if it had not been", false, books::sound);
    }

    private static void restore() {
        CertifiedBooks books = Books.withTransferRun(3);
        books.reverse(3, 1);
        Check.answers("13: none was wrong", 0, () -> books.restore(0));
        books.tamper(0, 5);
        books.tamper(1, 6);
        books.tamper(7, -7);
        books.tamper(6, 2);
        books.tamper(6, -2);
        Check.answers("13: three were", 3, () -> books.restore(1));
        Check.answers("13: account 0", 20000, () -> books.balance(0));
        Check.answers("13: account 1", -20000, () -> books.balance(1));
        Check.answers("13: account 7", 0, () -> books.balance(7));
        Check.answers("13: none is any more", 0, () -> books.restore(1));
        for (int i = 0; i < 8; i++) {
            books.tamper(i, -1);
        }
        Check.answers("13: all were", 8, () -> books.restore(0));
        Check.answers("13: sound", true, books::sound);
        Check.answers("13: the log stays", 4, books::entries);
        Check.answers("13: runs go on", 4, () -> books.ask(2, 0, 1));
    }

    private static void restoreNewBooks() {
        CertifiedBooks books = new CertifiedBooks();
        Check.answers("13: a new object", 0, () -> books.restore(0));
        books.tamper(7, 1000000);
        Check.answers("13: one was", 1, () -> books.restore(1));
        Check.answers("13: as new", 0, () -> books.balance(7));
        Check.answers("15: no entries", 0, () -> books.balanceAt(7, 0));
        Check.refuses("15: the first of none", Check.UNKNOWN, () -> books.balanceAt(7, 1));
        Check.refuses("17: the first of none", Check.UNKNOWN, () -> books.entry(0, 0));
    }

    /** Floors hold procedures up, nothing else. */
    private static void restoreBelowFloor() {
        CertifiedBooks books = Books.withTransferRun(1);
        books.tamper(1, 20000);
        books.floor(0, 1, 5000);
        Check.answers("13: one was", 1, () -> books.restore(0));
        Check.answers("13: below the floor", -10000, () -> books.balance(1));
        books.floor(0, 1, 0);
        Check.answers("13: the floor stays", 0, () -> books.floor(0, 1, 0));
    }

    private static void restoreRefuses() {
        CertifiedBooks books = Books.withTransferRun(1);
        books.tamper(0, 1);
        for (int user : new int[] {-1, 8, Integer.MIN_VALUE, Integer.MAX_VALUE}) {
            Check.refuses("13: user " + user, Check.UNKNOWN, () -> books.restore(user));
        }
        for (int i = 2; i < 8; i++) {
            int user = i;
            Check.refuses("13: no officer", Check.UNSUPPORTED, () -> books.restore(user));
        }
        Check.answers("13: nothing was restored", 10001, () -> books.balance(0));
    }

    private static void balance() {
        CertifiedBooks books = Books.withTransferRun(1);
        Books.addProcedure(books, 7, 25, 6, -25);
        books.ask(2, 1, 400);
        books.tamper(5, 9);
        long[] due = {10000, -10000, 0, 0, 0, 9, -100, 100};
        for (int i = 0; i < 8; i++) {
            int account = i;
            Check.answers("14: account " + account, due[account], () -> books.balance(account));
        }
        for (int account : new int[] {-1, 8, Integer.MIN_VALUE, Integer.MAX_VALUE}) {
            Check.refuses("14: account " + account, Check.UNKNOWN, () -> books.balance(account));
        }
    }

    private static void balanceAt() {
        CertifiedBooks books = Books.withTransfer();
        Books.addProcedure(books, 0, -33, 7, 33);
        books.ask(2, 0, 1000);
        books.ask(2, 1, 10);
        books.reverse(3, 0);
        books.ask(2, 0, 50);
        books.tamper(0, 77);
        long[] ofFirst = {0, 1000, 997, -3, 47};
        long[] ofLast = {0, 0, 3, 3, 3};
        for (int i = 0; i <= 4; i++) {
            int n = i;
            Check.answers("15: account 0, " + n, ofFirst[n], () -> books.balanceAt(0, n));
            Check.answers("15: account 7, " + n, ofLast[n], () -> books.balanceAt(7, n));
            Check.answers("15: account 3, " + n, 0, () -> books.balanceAt(3, n));
        }
        books.restore(0);
        Check.answers("15: the log stays", 47, () -> books.balanceAt(0, 4));
    }

    private static void balanceAtRefuses() {
        CertifiedBooks books = Books.withTransferRun(2);
        for (int account : new int[] {-1, 8, Integer.MIN_VALUE, Integer.MAX_VALUE}) {
            Check.refuses("15: account " + account, Check.UNKNOWN, () -> books.balanceAt(account, 0));
        }
        for (int n : new int[] {-1, 3, 40, 41, Integer.MIN_VALUE, Integer.MAX_VALUE}) {
            Check.refuses("15: n " + n, Check.UNKNOWN, () -> books.balanceAt(0, n));
        }
        CertifiedBooks full = Books.withTransferRun(40);
        Check.answers("15: all forty", 400000, () -> full.balanceAt(0, 40));
        Check.answers("15: but the last", 390000, () -> full.balanceAt(0, 39));
        Check.refuses("15: more", Check.UNKNOWN, () -> full.balanceAt(0, 41));
    }

    private static void entries() {
        CertifiedBooks books = Books.withTransfer();
        books.ask(2, 0, 20000);
        Check.answers("16: a request is none", 0, books::entries);
        books.approve(3, 0);
        Check.answers("16: approved", 1, books::entries);
        books.ask(2, 0, 1);
        Check.answers("16: asked for", 2, books::entries);
        books.reverse(4, 0);
        Check.answers("16: reversed", 3, books::entries);
        books.tamper(0, 1);
        books.restore(0);
        Check.answers("16: tampered with, restored", 3, books::entries);
    }

    private static void entry() {
        CertifiedBooks books = Books.withTransfer();
        int second = Books.addProcedure(books, 3, 50, 2, -50);
        books.ask(4, second, 20000);
        books.approve(2, 0);
        books.ask(3, 0, 7);
        books.reverse(3, 0);
        int none = CertifiedBooks.NONE;
        int[][] due = {{second, 4, 2, none, 2}, {0, 3, none, none, none}, {second, 3, none, 0, none}};
        for (int i = 0; i < due.length; i++) {
            for (int j = 0; j < 5; j++) {
                int number = i;
                int what = j;
                Check.answers("17: " + number + ", " + what, due[number][what], () -> books.entry(number, what));
            }
        }
    }

    private static void entryRefuses() {
        CertifiedBooks books = Books.withTransferRun(2);
        for (int entry : new int[] {-1, 2, 39, 40, Integer.MIN_VALUE, Integer.MAX_VALUE}) {
            Check.refuses("17: entry " + entry, Check.UNKNOWN, () -> books.entry(entry, 0));
        }
        for (int what : new int[] {-1, 5, Integer.MIN_VALUE, Integer.MAX_VALUE}) {
            Check.refuses("17: what " + what, Check.UNKNOWN, () -> books.entry(0, what));
        }
        CertifiedBooks full = Books.withTransferRun(40);
        Check.answers("17: the last of forty", 2, () -> full.entry(39, 1));
        Check.refuses("17: no more", Check.UNKNOWN, () -> full.entry(40, 1));
    }

    private static void amount() {
        CertifiedBooks books = Books.withTransfer();
        books.ask(2, 0, Books.MOST);
        books.approve(3, 0);
        books.ask(2, 0, 1);
        books.reverse(4, 0);
        Check.answers("18: the most", Books.MOST, () -> books.amount(0));
        Check.answers("18: the least", 1, () -> books.amount(1));
        Check.answers("18: a reversal", Books.MOST, () -> books.amount(2));
        for (int entry : new int[] {-1, 3, 39, 40, Integer.MIN_VALUE, Integer.MAX_VALUE}) {
            Check.refuses("18: entry " + entry, Check.UNKNOWN, () -> books.amount(entry));
        }
    }
}
