/** Promises 8, 9 and 19: requests, and how they are approved or withdrawn. */
public final class RequestsTest {
    public static void main(String[] args) {
        approve();
        approveKeepsRequestApart();
        approveRefuses();
        approveTestsInOrder();
        approveNeedsBothToRun();
        approveFails();
        approveAboveLimit();
        approveInUnsoundBooks();
        approveFullLog();
        withdraw();
        withdrawByOthers();
        withdrawRefuses();
        withdrawInAnyState();
        lastRequest();
        requested();
        requestedRefuses();
        Check.end();
    }

    private static void approve() {
        CertifiedBooks books = Books.withTransferRun(1);
        books.ask(2, 0, 20000);
        Check.answers("8: the entry", 1, () -> books.approve(3, 0));
        Check.answers("8: account 0", 30000, () -> books.balance(0));
        Check.answers("8: account 1", -30000, () -> books.balance(1));
        Check.answers("8: the procedure", 0, () -> books.entry(1, 0));
        Check.answers("8: who asked", 2, () -> books.entry(1, 1));
        Check.answers("8: who approved", 3, () -> books.entry(1, 2));
        Check.answers("8: no reversal", CertifiedBooks.NONE, () -> books.entry(1, 3));
        Check.answers("8: not reversed", CertifiedBooks.NONE, () -> books.entry(1, 4));
        Check.answers("8: the amount", 20000, () -> books.amount(1));
        Check.answers("8: no request any more", CertifiedBooks.NONE, () -> books.requested(0));
        Check.refuses("8: approved twice", Check.UNKNOWN, () -> books.approve(4, 0));
        Check.answers("8: two entries", 2, books::entries);
        Check.answers("8: sound", true, books::sound);
    }

    private static void approveKeepsRequestApart() {
        CertifiedBooks books = Books.withTransfer();
        Books.addProcedure(books, 2, 100, 3, -100);
        books.ask(2, 0, 20000);
        books.ask(3, 1, 30000);
        books.ask(4, 0, 40000);
        Check.answers("8: the second request", 0, () -> books.approve(2, 1));
        Check.answers("8: its procedure", 1, () -> books.entry(0, 0));
        Check.answers("8: its amount", 30000, () -> books.balance(2));
        Check.answers("8: who asked", 3, () -> books.entry(0, 1));
        Check.answers("8: the first stays", 2, () -> books.requested(0));
        Check.answers("8: the third stays", 4, () -> books.requested(2));
        Check.answers("8: its number is free", 101, () -> books.ask(3, 0, 50000));
        Check.answers("8: the third request", 1, () -> books.approve(3, 2));
        Check.answers("8: the amount of the third", 40000, () -> books.balance(0));
        Check.answers("8: the new one", 2, () -> books.approve(4, 1));
        Check.answers("8: the amount of the new one", 90000, () -> books.balance(0));
    }

    private static void approveRefuses() {
        CertifiedBooks books = Books.withTransfer();
        books.ask(2, 0, 20000);
        for (int unknown : new int[] {-1, 8, 6, 100, Integer.MIN_VALUE, Integer.MAX_VALUE}) {
            Check.refuses("8: request " + unknown, Check.UNKNOWN, () -> books.approve(3, unknown));
        }
        for (int unknown : new int[] {-1, 8, Integer.MIN_VALUE, Integer.MAX_VALUE}) {
            Check.refuses("8: user " + unknown, Check.UNKNOWN, () -> books.approve(unknown, 0));
        }
        for (int i = 1; i < 6; i++) {
            int number = i;
            Check.refuses("8: not in use", Check.UNKNOWN, () -> books.approve(3, number));
        }
        Check.refuses("8: asked for it", Check.UNSUPPORTED, () -> books.approve(2, 0));
        Check.refuses("8: not granted", Check.UNSUPPORTED, () -> books.approve(5, 0));
        Check.refuses("8: an officer, not granted", Check.UNSUPPORTED, () -> books.approve(1, 0));
        books.grant(1, 0, 0, true);
        Check.refuses("8: certified it", Check.UNSUPPORTED, () -> books.approve(0, 0));
        Check.answers("8: still asked for", 2, () -> books.requested(0));
        Check.answers("8: nothing was run", 0, books::entries);
    }

    private static void approveTestsInOrder() {
        CertifiedBooks books = Books.withTransfer();
        books.ask(2, 0, 20000);
        books.floor(0, 1, 0);
        books.tamper(1, 1);
        Check.refuses("8: request before grant", Check.UNKNOWN, () -> books.approve(5, 1));
        Check.refuses("8: grant before soundness", Check.UNSUPPORTED, () -> books.approve(5, 0));
        Check.refuses("8: own before soundness", Check.UNSUPPORTED, () -> books.approve(2, 0));
        Check.refuses("8: not sound", Check.STATE, () -> books.approve(3, 0));
    }

    private static void approveNeedsBothToRun() {
        CertifiedBooks books = Books.withTransfer();
        books.ask(2, 0, 20000);
        books.grant(0, 2, 0, false);
        Check.refuses("8: who asked may not run it", Check.UNSUPPORTED, () -> books.approve(3, 0));
        books.tamper(0, 1);
        Check.refuses("8: nor if not sound", Check.UNSUPPORTED, () -> books.approve(3, 0));
        books.tamper(0, -1);
        books.grant(0, 2, 0, true);
        books.grant(0, 3, 0, false);
        Check.refuses("8: granted no more", Check.UNSUPPORTED, () -> books.approve(3, 0));
        Check.answers("8: still asked for", 2, () -> books.requested(0));
        Check.answers("8: another may", 0, () -> books.approve(4, 0));
    }

    private static void approveFails() {
        CertifiedBooks books = Books.withTransfer();
        books.ask(2, 0, 20000);
        books.floor(0, 1, -19999);
        Check.refuses("8: below the floor", Check.STATE, () -> books.approve(3, 0));
        Check.answers("8: still a request", 2, () -> books.requested(0));
        Check.answers("8: no entry", 0, books::entries);
        Check.answers("8: nothing posted", 0, () -> books.balance(0));
        books.floor(0, 1, -20000);
        Check.answers("8: down to the floor", 0, () -> books.approve(3, 0));
    }

    private static void approveAboveLimit() {
        CertifiedBooks books = Books.withTransfer();
        Books.bringMost(books, 9);
        books.ask(2, 0, 1);
        books.ask(2, 0, Books.MOST);
        Check.refuses("8: one above", Check.STATE, () -> books.approve(3, 0));
        Check.answers("8: still a request", 2, () -> books.requested(0));
        books.reverse(3, 9);
        Check.answers("8: up to the limit", 11, () -> books.approve(3, 0));
        Check.answers("8: the most a balance may be", Books.LIMIT, () -> books.balance(0));
        Check.answers("8: the least a balance may be", -Books.LIMIT, () -> books.balance(1));
    }

    private static void approveInUnsoundBooks() {
        CertifiedBooks books = Books.withTransfer();
        books.ask(2, 0, 20000);
        books.tamper(5, 1);
        Check.refuses("8: not sound", Check.STATE, () -> books.approve(3, 0));
        Check.answers("8: still a request", 2, () -> books.requested(0));
        books.restore(1);
        Check.answers("8: sound", 0, () -> books.approve(3, 0));
    }

    private static void approveFullLog() {
        CertifiedBooks books = Books.withTransfer();
        books.ask(2, 0, 20000);
        books.ask(2, 0, 30000);
        for (int i = 0; i < 39; i++) {
            books.ask(2, 0, 1);
        }
        Check.answers("8: the last entry", 39, () -> books.approve(3, 1));
        Check.refuses("8: a full log", Check.STATE, () -> books.approve(3, 0));
        Check.answers("8: still a request", 2, () -> books.requested(0));
        Check.answers("8: what the log posted", 30039, () -> books.balance(0));
    }

    private static void withdraw() {
        CertifiedBooks books = Books.withTransfer();
        books.ask(2, 0, 20000);
        books.ask(2, 0, 30000);
        Check.happens("9: who asked", () -> books.withdraw(2, 0));
        Check.answers("9: no request any more", CertifiedBooks.NONE, () -> books.requested(0));
        Check.answers("9: the other stays", 2, () -> books.requested(1));
        Check.refuses("9: withdrawn twice", Check.UNKNOWN, () -> books.withdraw(2, 0));
        Check.refuses("9: nor approved", Check.UNKNOWN, () -> books.approve(3, 0));
        Check.answers("9: nothing was run", 0, books::entries);
        Check.answers("9: nor posted", 0, () -> books.balance(0));
        Check.answers("9: its number is free", 100, () -> books.ask(3, 0, 40000));
    }

    private static void withdrawByOthers() {
        CertifiedBooks books = Books.withTransfer();
        books.ask(2, 0, 20000);
        Check.happens("9: who may approve", () -> books.withdraw(3, 0));
        Check.answers("9: no request any more", CertifiedBooks.NONE, () -> books.requested(0));
        books.ask(2, 0, 20000);
        books.grant(0, 2, 0, false);
        Check.happens("9: who asked, granted no more", () -> books.withdraw(2, 0));
        books.grant(0, 2, 0, true);
        books.ask(2, 0, 20000);
        books.grant(0, 2, 0, false);
        Check.happens("9: who asked may run it no more", () -> books.withdraw(4, 0));
    }

    private static void withdrawRefuses() {
        CertifiedBooks books = Books.withTransfer();
        books.ask(2, 0, 20000);
        for (int unknown : new int[] {-1, 8, 6, 100, Integer.MIN_VALUE, Integer.MAX_VALUE}) {
            Check.refuses("9: request " + unknown, Check.UNKNOWN, () -> books.withdraw(2, unknown));
        }
        for (int unknown : new int[] {-1, 8, Integer.MIN_VALUE, Integer.MAX_VALUE}) {
            Check.refuses("9: user " + unknown, Check.UNKNOWN, () -> books.withdraw(unknown, 0));
        }
        for (int i = 1; i < 6; i++) {
            int number = i;
            Check.refuses("9: not in use", Check.UNKNOWN, () -> books.withdraw(5, number));
        }
        Check.refuses("9: not granted", Check.UNSUPPORTED, () -> books.withdraw(5, 0));
        Check.refuses("9: an officer, not granted", Check.UNSUPPORTED, () -> books.withdraw(1, 0));
        books.grant(1, 0, 0, true);
        Check.refuses("9: certified it", Check.UNSUPPORTED, () -> books.withdraw(0, 0));
        books.grant(1, 3, 0, false);
        Check.refuses("9: granted no more", Check.UNSUPPORTED, () -> books.withdraw(3, 0));
        Check.answers("9: still a request", 2, () -> books.requested(0));
    }

    private static void withdrawInAnyState() {
        CertifiedBooks books = Books.withTransfer();
        books.ask(2, 0, 20000);
        books.ask(2, 0, 20000);
        for (int i = 0; i < 40; i++) {
            books.ask(2, 0, 1);
        }
        books.tamper(0, 1);
        Check.happens("9: not sound, a full log", () -> books.withdraw(3, 1));
        Check.happens("9: not sound, who asked", () -> books.withdraw(2, 0));
    }

    private static void lastRequest() {
        CertifiedBooks books = Books.withTransfer();
        for (int i = 0; i < 6; i++) {
            books.ask(2, 0, 20000 + i);
        }
        Check.answers("8: the last request", 0, () -> books.approve(3, 5));
        Check.answers("8: its amount", 20005, () -> books.amount(0));
        Check.refuses("8: not in use any more", Check.UNKNOWN, () -> books.approve(3, 5));
        Check.answers("7: the last is free", 105, () -> books.ask(4, 0, 30000));
        Check.answers("19: the last request", 4, () -> books.requested(5));
        Check.happens("9: the last request", () -> books.withdraw(4, 5));
        Check.answers("19: withdrawn", CertifiedBooks.NONE, () -> books.requested(5));
        Check.answers("19: the one before stays", 2, () -> books.requested(4));
    }

    private static void requested() {
        CertifiedBooks books = Books.withTransfer();
        for (int i = 0; i < 6; i++) {
            int number = i;
            Check.answers("19: not in use", CertifiedBooks.NONE, () -> books.requested(number));
            books.ask(2 + number % 3, 0, 10001);
            Check.answers("19: who asked", 2 + number % 3, () -> books.requested(number));
        }
        books.grant(0, 4, 0, false);
        Check.answers("19: who asked, granted no more", 4, () -> books.requested(5));
        books.withdraw(2, 3);
        Check.answers("19: withdrawn", CertifiedBooks.NONE, () -> books.requested(3));
        books.approve(2, 1);
        Check.answers("19: approved", CertifiedBooks.NONE, () -> books.requested(1));
        Check.answers("19: the first", 2, () -> books.requested(0));
    }

    private static void requestedRefuses() {
        CertifiedBooks books = Books.withTransfer();
        books.ask(2, 0, 10001);
        for (int unknown : new int[] {-1, 6, 7, 100, Integer.MIN_VALUE, Integer.MAX_VALUE}) {
            Check.refuses("19: request " + unknown, Check.UNKNOWN, () -> books.requested(unknown));
        }
    }
}
