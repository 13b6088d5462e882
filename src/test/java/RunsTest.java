/** Promises 6, 7 and 10: floors, runs that are asked for, and reversals. */
public final class RunsTest {
    public static void main(String[] args) {
        floor();
        floorRefuses();
        floorHoldsRunsUp();
        floorAboveBalance();
        ask();
        askRounds();
        askRoundsLargeAmount();
        askLastLineFails();
        askRefuses();
        askTestsInOrder();
        askInUnsoundBooks();
        askRequest();
        askSeventhRequest();
        askFullLog();
        askAboveLimit();
        askBelowLimit();
        askTakesBackLines();
        askFirstAndLastUser();
        reverse();
        reverseNegatesRounded();
        reverseLargeAmount();
        reverseRefuses();
        reverseTwice();
        reverseFails();
        reverseAboveLimit();
        reverseInUnsoundBooks();
        reverseFullLog();
        Check.end();
    }

    private static void floor() {
        CertifiedBooks books = new CertifiedBooks();
        Check.answers("6: the first floor", -Books.LIMIT, () -> books.floor(0, 0, 5));
        Check.answers("6: what it was", 5, () -> books.floor(1, 0, -Books.LIMIT));
        Check.answers("6: the least", -Books.LIMIT, () -> books.floor(1, 0, Books.LIMIT));
        Check.answers("6: the most", Books.LIMIT, () -> books.floor(1, 0, 0));
        Check.answers("6: another account's", -Books.LIMIT, () -> books.floor(1, 7, 3));
        Check.answers("6: the balance stays", 0, () -> books.balance(7));
        Check.answers("6: sound below the floor", true, books::sound);
    }

    private static void floorRefuses() {
        CertifiedBooks books = new CertifiedBooks();
        for (int unknown : new int[] {-1, 8, Integer.MIN_VALUE, Integer.MAX_VALUE}) {
            Check.refuses("6: officer " + unknown, Check.UNKNOWN, () -> books.floor(unknown, 0, 1));
            Check.refuses("6: account " + unknown, Check.UNKNOWN, () -> books.floor(0, unknown, 1));
        }
        for (int i = 2; i < 8; i++) {
            int user = i;
            Check.refuses("6: no officer", Check.UNSUPPORTED, () -> books.floor(user, 0, 1));
        }
        for (long floor : new long[] {-Books.LIMIT - 1, Books.LIMIT + 1, Long.MIN_VALUE, Long.MAX_VALUE}) {
            Check.refuses("6: floor " + floor, Check.ARGUMENT, () -> books.floor(0, 0, floor));
        }
        Check.refuses("6: account before officer", Check.UNKNOWN, () -> books.floor(2, 8, 1));
        Check.refuses("6: officer before floor", Check.UNSUPPORTED, () -> books.floor(2, 0, Long.MAX_VALUE));
        Check.answers("6: nothing was set", -Books.LIMIT, () -> books.floor(0, 0, 1));
    }

    private static void floorHoldsRunsUp() {
        CertifiedBooks books = Books.withTransfer();
        books.floor(0, 1, -700);
        Check.refuses("6: one below", Check.STATE, () -> books.ask(2, 0, 701));
        Check.answers("6: no entry of it", 0, books::entries);
        Check.answers("6: the line before is taken back", 0, () -> books.balance(0));
        Check.answers("6: down to the floor", 0, () -> books.ask(2, 0, 700));
        Check.refuses("6: below the floor", Check.STATE, () -> books.ask(2, 0, 1));
    }

    private static void floorAboveBalance() {
        CertifiedBooks books = new CertifiedBooks();
        Books.addProcedure(books, 0, 100, 1, -100);
        Books.addProcedure(books, 1, 100, 2, -100);
        Books.addProcedure(books, 1, -1, 2, 1);
        books.ask(2, 0, 1000);
        books.floor(0, 1, -10);
        Check.answers("6: up, yet below the floor", 1, () -> books.ask(2, 1, 500));
        Check.answers("6: the balance", -500, () -> books.balance(1));
        Check.refuses("6: down below the floor", Check.STATE, () -> books.ask(2, 2, 100));
        Check.answers("6: a line that posts 0", 2, () -> books.ask(2, 2, 99));
        Check.answers("6: the balance stays", -500, () -> books.balance(1));
    }

    private static void ask() {
        CertifiedBooks books = Books.withTransfer();
        Check.answers("7: the least", 0, () -> books.ask(2, 0, 1));
        Check.answers("7: without approval", 1, () -> books.ask(3, 0, 10000));
        Check.answers("7: account 0", 10001, () -> books.balance(0));
        Check.answers("7: account 1", -10001, () -> books.balance(1));
        Check.answers("7: account 2", 0, () -> books.balance(2));
        Check.answers("7: the entries", 2, books::entries);
        Check.answers("7: the procedure", 0, () -> books.entry(1, 0));
        Check.answers("7: who asked", 3, () -> books.entry(1, 1));
        Check.answers("7: nobody had to approve", CertifiedBooks.NONE, () -> books.entry(1, 2));
        Check.answers("7: no reversal", CertifiedBooks.NONE, () -> books.entry(1, 3));
        Check.answers("7: not reversed", CertifiedBooks.NONE, () -> books.entry(1, 4));
        Check.answers("7: the amount", 10000, () -> books.amount(1));
        Check.answers("7: no request", CertifiedBooks.NONE, () -> books.requested(0));
        Check.answers("7: sound", true, books::sound);
    }

    private static void askRounds() {
        CertifiedBooks books = new CertifiedBooks();
        Books.addProcedure(books, 4, -33, 6, 33, 5, -34, 7, 34);
        books.ask(2, 0, 10);
        Check.answers("7: -3.3 towards 0", -3, () -> books.balance(4));
        Check.answers("7: 3.3 towards 0", 3, () -> books.balance(6));
        Check.answers("7: -3.4 towards 0", -3, () -> books.balance(5));
        Check.answers("7: the last makes the sum 0", 3, () -> books.balance(7));
        Books.addProcedure(books, 0, 99, 1, -49, 2, -50);
        books.ask(2, 1, 199);
        Check.answers("7: 197.01", 197, () -> books.balance(0));
        Check.answers("7: -97.51", -97, () -> books.balance(1));
        Check.answers("7: the last beyond its share", -100, () -> books.balance(2));
        Books.addProcedure(books, 0, 1, 1, 1, 2, -1, 3, -1);
        books.ask(2, 2, 99);
        Check.answers("7: 0.99", 197, () -> books.balance(0));
        Check.answers("7: nothing at all", 0, () -> books.balance(3));
        Check.answers("7: an entry all the same", 3, books::entries);
    }

    private static void askRoundsLargeAmount() {
        CertifiedBooks books = new CertifiedBooks();
        Books.addProcedure(books, 0, 33, 1, -67, 2, 34);
        books.ask(2, 0, Books.MOST - 1);
        Check.answers("8: the largest amount that is rounded", 0, () -> books.approve(3, 0));
        Check.answers("8: 32999999999.67", 32999999999L, () -> books.balance(0));
        Check.answers("8: -66999999999.33", -66999999999L, () -> books.balance(1));
        Check.answers("8: the last makes the sum 0", 34000000000L, () -> books.balance(2));
        Check.answers("10: its reversal", 1, () -> books.reverse(4, 0));
        for (int i = 0; i < 3; i++) {
            int account = i;
            Check.answers("10: all taken back", 0, () -> books.balance(account));
        }
    }

    /** The last line is held up by what it posts, not by its share of the amount. */
    private static void askLastLineFails() {
        CertifiedBooks books = new CertifiedBooks();
        Books.addProcedure(books, 0, 99, 1, -49, 2, -50);
        books.floor(0, 2, -99);
        Check.refuses("7: the last posts -100, its share is -99.5", Check.STATE, () -> books.ask(2, 0, 199));
        Check.answers("7: those before are taken back", 0, () -> books.balance(0));
        books.floor(0, 2, -100);
        Check.answers("7: down to the floor", 0, () -> books.ask(2, 0, 199));
        books.floor(0, 0, 1);
        Check.refuses("10: the first posts -197", Check.STATE, () -> books.reverse(3, 0));
        books.floor(0, 0, 0);
        Check.answers("10: down to the floor", 1, () -> books.reverse(3, 0));
        Check.answers("10: the last is taken back whole", 0, () -> books.balance(2));
    }

    private static void askRefuses() {
        CertifiedBooks books = Books.withTransfer();
        for (int unknown : new int[] {-1, 8, Integer.MIN_VALUE, Integer.MAX_VALUE}) {
            Check.refuses("7: user " + unknown, Check.UNKNOWN, () -> books.ask(unknown, 0, 1));
            Check.refuses("7: procedure " + unknown, Check.UNKNOWN, () -> books.ask(2, unknown, 1));
        }
        Check.refuses("7: procedure 1", Check.UNKNOWN, () -> books.ask(2, 1, 1));
        Check.refuses("7: not granted", Check.UNSUPPORTED, () -> books.ask(5, 0, 1));
        books.grant(1, 0, 0, true);
        Check.refuses("7: certified it", Check.UNSUPPORTED, () -> books.ask(0, 0, 1));
        books.draw(0, 1);
        books.grant(1, 2, 1, true);
        Check.refuses("7: not certified", Check.UNSUPPORTED, () -> books.ask(2, 1, 1));
        for (long amount : new long[] {0, -1, Books.MOST + 1, Long.MIN_VALUE, Long.MAX_VALUE}) {
            Check.refuses("7: amount " + amount, Check.ARGUMENT, () -> books.ask(2, 0, amount));
        }
        Check.answers("7: nothing was run", 0, books::entries);
        Check.answers("7: nor asked for", CertifiedBooks.NONE, () -> books.requested(0));
        Check.answers("7: the most", 100, () -> books.ask(2, 0, Books.MOST));
    }

    private static void askTestsInOrder() {
        CertifiedBooks books = Books.withTransfer();
        books.tamper(7, 1);
        Check.refuses("7: user before amount", Check.UNKNOWN, () -> books.ask(8, 0, 0));
        Check.refuses("7: procedure before grant", Check.UNKNOWN, () -> books.ask(5, 1, 0));
        Check.refuses("7: grant before amount", Check.UNSUPPORTED, () -> books.ask(5, 0, 0));
        Check.refuses("7: amount before soundness", Check.ARGUMENT, () -> books.ask(2, 0, 0));
        Check.refuses("7: soundness", Check.STATE, () -> books.ask(2, 0, 1));
    }

    private static void askInUnsoundBooks() {
        for (int i = 0; i < 8; i++) {
            int account = i;
            CertifiedBooks books = Books.withTransferRun(1);
            books.tamper(account, -1);
            Check.refuses("7: not sound", Check.STATE, () -> books.ask(2, 0, 1));
            Check.refuses("7: not sound, a request", Check.STATE, () -> books.ask(2, 0, 10001));
            Check.answers("7: no request", CertifiedBooks.NONE, () -> books.requested(0));
            books.tamper(account, 1);
            Check.answers("7: sound again", 1, () -> books.ask(2, 0, 1));
        }
    }

    private static void askRequest() {
        CertifiedBooks books = Books.withTransfer();
        books.floor(0, 1, 0);
        Check.answers("7: a request, though it would fail", 100, () -> books.ask(2, 0, 10001));
        Check.answers("7: the next", 101, () -> books.ask(4, 0, 10001));
        Check.answers("7: who asked", 2, () -> books.requested(0));
        Check.answers("7: who asked next", 4, () -> books.requested(1));
        Check.answers("7: nothing was run", 0, books::entries);
        Check.answers("7: nor posted", 0, () -> books.balance(0));
    }

    private static void askSeventhRequest() {
        CertifiedBooks books = Books.withTransfer();
        for (int i = 0; i < 6; i++) {
            int number = i;
            Check.answers("7: request", 100 + number, () -> books.ask(2, 0, 10001));
        }
        Check.refuses("7: a seventh", Check.STATE, () -> books.ask(2, 0, 10001));
        Check.answers("7: none needed", 0, () -> books.ask(2, 0, 10000));
        books.withdraw(2, 4);
        books.withdraw(2, 1);
        Check.answers("7: the least not in use", 101, () -> books.ask(3, 0, 10001));
        Check.answers("7: the other", 104, () -> books.ask(3, 0, 10001));
        Check.refuses("7: again a seventh", Check.STATE, () -> books.ask(2, 0, 10001));
    }

    private static void askFullLog() {
        CertifiedBooks books = Books.withTransferRun(39);
        Check.answers("7: the last entry", 39, () -> books.ask(2, 0, 1));
        Check.refuses("7: a full log", Check.STATE, () -> books.ask(2, 0, 1));
        Check.refuses("7: a full log, a request", Check.STATE, () -> books.ask(2, 0, 10001));
        Check.refuses("7: amount before the full log", Check.ARGUMENT, () -> books.ask(2, 0, 0));
        Check.answers("7: no request", CertifiedBooks.NONE, () -> books.requested(0));
        Check.answers("7: forty entries", 40, books::entries);
        Check.answers("7: what they posted", 390001, () -> books.balance(0));
        Check.answers("7: sound", true, books::sound);
    }

    private static void askAboveLimit() {
        CertifiedBooks books = new CertifiedBooks();
        Books.addProcedure(books, 0, 100, 1, -50, 2, -50);
        Books.bringMost(books, 9);
        books.approve(3, books.ask(2, 0, Books.MOST - 1) - 100);
        Check.answers("7: one below", Books.LIMIT - 1, () -> books.balance(0));
        Check.refuses("7: one above", Check.STATE, () -> books.ask(2, 0, 2));
        Check.answers("7: up to it", 10, () -> books.ask(2, 0, 1));
        Check.answers("7: the most a balance may be", Books.LIMIT, () -> books.balance(0));
        Check.refuses("7: above it", Check.STATE, () -> books.ask(2, 0, 1));
    }

    private static void askBelowLimit() {
        CertifiedBooks books = new CertifiedBooks();
        Books.addProcedure(books, 0, -100, 1, 50, 2, 50);
        Books.bringMost(books, 9);
        books.approve(3, books.ask(2, 0, Books.MOST - 1) - 100);
        Check.refuses("7: below the first floor", Check.STATE, () -> books.ask(2, 0, 2));
        Check.answers("7: down to it", 10, () -> books.ask(2, 0, 1));
        Check.answers("7: the least a balance may be", -Books.LIMIT, () -> books.balance(0));
        Check.refuses("7: below it", Check.STATE, () -> books.ask(2, 0, 1));
    }

    private static void askTakesBackLines() {
        for (int i = 0; i < 4; i++) {
            int account = i;
            CertifiedBooks books = new CertifiedBooks();
            Books.addProcedure(books, 0, -10, 1, -20, 2, 40, 3, -10);
            Books.addProcedure(books, 0, 10, 1, 20, 2, -40, 3, 10);
            books.floor(0, account, 0);
            int fails = account == 2 ? 1 : 0;
            Check.refuses("7: line " + account + " fails", Check.STATE, () -> books.ask(2, fails, 100));
            for (int j = 0; j < 8; j++) {
                int other = j;
                Check.answers("7: taken back", 0, () -> books.balance(other));
            }
            Check.answers("7: no entry", 0, books::entries);
            Check.answers("7: sound", true, books::sound);
            Check.answers("7: none fails", 0, () -> books.ask(2, 1 - fails, 100));
        }
    }

    private static void askFirstAndLastUser() {
        CertifiedBooks books = new CertifiedBooks();
        books.draw(0, 100);
        books.add(0, 7, -100);
        books.certify(1, 0);
        books.grant(1, 0, 0, true);
        books.grant(1, 7, 0, true);
        Check.answers("7: the last user", 0, () -> books.ask(7, 0, 5));
        Check.answers("10: the first user", 1, () -> books.reverse(0, 0));
        Check.answers("7: the first user", 2, () -> books.ask(0, 0, 6));
        Check.answers("10: the last user", 3, () -> books.reverse(7, 2));
        books.ask(0, 0, 10001);
        books.ask(7, 0, 10001);
        Check.answers("8: the last user", 4, () -> books.approve(7, 0));
        Check.answers("8: the first user", 5, () -> books.approve(0, 1));
        Check.answers("17: the first user asked", 0, () -> books.entry(4, 1));
        Check.answers("17: the first user approved", 0, () -> books.entry(5, 2));
        books.ask(0, 0, 10001);
        books.ask(7, 0, 10001);
        Check.answers("19: the first user", 0, () -> books.requested(0));
        Check.happens("9: the last user", () -> books.withdraw(7, 0));
        Check.happens("9: the first user", () -> books.withdraw(0, 1));
    }

    private static void reverse() {
        CertifiedBooks books = Books.withTransferRun(2);
        Check.answers("10: the reversal", 2, () -> books.reverse(3, 0));
        Check.answers("10: account 0", 10000, () -> books.balance(0));
        Check.answers("10: account 1", -10000, () -> books.balance(1));
        Check.answers("10: the procedure", 0, () -> books.entry(2, 0));
        Check.answers("10: who asked", 3, () -> books.entry(2, 1));
        Check.answers("10: nobody approved", CertifiedBooks.NONE, () -> books.entry(2, 2));
        Check.answers("10: of which entry", 0, () -> books.entry(2, 3));
        Check.answers("10: is not reversed", CertifiedBooks.NONE, () -> books.entry(2, 4));
        Check.answers("10: the amount", 10000, () -> books.amount(2));
        Check.answers("10: the entry is", 2, () -> books.entry(0, 4));
        Check.answers("10: the other is not", CertifiedBooks.NONE, () -> books.entry(1, 4));
        Check.answers("10: who asked for it stays", 2, () -> books.entry(0, 1));
        Check.answers("10: sound", true, books::sound);
    }

    private static void reverseNegatesRounded() {
        CertifiedBooks books = new CertifiedBooks();
        Books.addProcedure(books, 0, 33, 1, 33, 2, 34, 3, -100);
        books.ask(2, 0, 10);
        books.ask(2, 0, 199);
        books.reverse(3, 1);
        Check.answers("10: account 0", 3, () -> books.balance(0));
        Check.answers("10: account 2", 3, () -> books.balance(2));
        Check.answers("10: account 3", -9, () -> books.balance(3));
        books.reverse(4, 0);
        for (int i = 0; i < 4; i++) {
            int account = i;
            Check.answers("10: all taken back", 0, () -> books.balance(account));
        }
    }

    private static void reverseLargeAmount() {
        CertifiedBooks books = Books.withTransfer();
        Books.bringMost(books, 1);
        Check.refuses("10: who asked", Check.UNSUPPORTED, () -> books.reverse(2, 0));
        Check.answers("10: who approved, at once", 1, () -> books.reverse(3, 0));
        Check.answers("10: no request", CertifiedBooks.NONE, () -> books.requested(0));
        Check.answers("10: nobody approved", CertifiedBooks.NONE, () -> books.entry(1, 2));
        Check.answers("10: the amount", Books.MOST, () -> books.amount(1));
        Check.answers("10: posted", 0, () -> books.balance(0));
    }

    private static void reverseRefuses() {
        CertifiedBooks books = Books.withTransferRun(1);
        for (int unknown : new int[] {-1, 8, 40, Integer.MIN_VALUE, Integer.MAX_VALUE}) {
            Check.refuses("10: user " + unknown, Check.UNKNOWN, () -> books.reverse(unknown, 0));
            Check.refuses("10: entry " + unknown, Check.UNKNOWN, () -> books.reverse(3, unknown));
        }
        Check.refuses("10: entry 1", Check.UNKNOWN, () -> books.reverse(3, 1));
        Check.refuses("10: not granted", Check.UNSUPPORTED, () -> books.reverse(5, 0));
        Check.refuses("10: asked for it", Check.UNSUPPORTED, () -> books.reverse(2, 0));
        books.grant(1, 0, 0, true);
        Check.refuses("10: certified it", Check.UNSUPPORTED, () -> books.reverse(0, 0));
        books.grant(0, 3, 0, false);
        Check.refuses("10: granted no more", Check.UNSUPPORTED, () -> books.reverse(3, 0));
        Check.refuses("10: entry before grant", Check.UNKNOWN, () -> books.reverse(3, 1));
        Check.answers("10: nothing was reversed", CertifiedBooks.NONE, () -> books.entry(0, 4));
        books.grant(0, 2, 0, false);
        Check.answers("10: who asked need not be granted still", 1, () -> books.reverse(4, 0));
    }

    private static void reverseTwice() {
        CertifiedBooks books = Books.withTransferRun(1);
        books.reverse(3, 0);
        Check.refuses("10: reversed", Check.STATE, () -> books.reverse(4, 0));
        Check.refuses("10: a reversal", Check.STATE, () -> books.reverse(4, 1));
        Check.refuses("10: reversed, and asked for", Check.UNSUPPORTED, () -> books.reverse(2, 0));
        Check.refuses("10: a reversal, and asked for", Check.UNSUPPORTED, () -> books.reverse(3, 1));
        Check.refuses("10: a reversal, who asked for the entry", Check.STATE, () -> books.reverse(2, 1));
        Check.answers("10: two entries", 2, books::entries);
        Check.answers("10: posted once", 0, () -> books.balance(0));
    }

    private static void reverseFails() {
        CertifiedBooks books = Books.withTransferRun(1);
        books.floor(0, 0, 1);
        Check.refuses("10: below the floor", Check.STATE, () -> books.reverse(3, 0));
        Check.answers("10: not reversed", CertifiedBooks.NONE, () -> books.entry(0, 4));
        Check.answers("10: no entry", 1, books::entries);
        Check.answers("10: nothing posted", -10000, () -> books.balance(1));
        books.floor(0, 0, 0);
        Check.answers("10: down to the floor", 1, () -> books.reverse(3, 0));
        Books.addProcedure(books, 2, 50, 3, 50, 0, -100);
        books.floor(0, 0, -Books.LIMIT);
        books.ask(2, 1, 100);
        books.floor(0, 2, 1);
        books.floor(0, 3, 60);
        Check.refuses("10: a line below its floor", Check.STATE, () -> books.reverse(3, 2));
        Check.answers("10: nothing of it posted", 50, () -> books.balance(2));
    }

    private static void reverseAboveLimit() {
        CertifiedBooks books = new CertifiedBooks();
        Books.addProcedure(books, 0, 100, 1, -50, 4, -50);
        Books.addProcedure(books, 2, 50, 3, 50, 0, -100);
        books.ask(2, 1, 2);
        Books.bringMost(books, 10);
        Check.answers("10: two below", Books.LIMIT - 2, () -> books.balance(0));
        books.ask(2, 0, 1);
        Check.refuses("10: one above", Check.STATE, () -> books.reverse(3, 0));
        Check.answers("10: not reversed", CertifiedBooks.NONE, () -> books.entry(0, 4));
        Check.answers("10: the lines before are taken back", 1, () -> books.balance(2));
        books.reverse(3, 11);
        Check.answers("10: up to the limit", 13, () -> books.reverse(3, 0));
        Check.answers("10: the most a balance may be", Books.LIMIT, () -> books.balance(0));
    }

    private static void reverseInUnsoundBooks() {
        CertifiedBooks books = Books.withTransferRun(1);
        books.tamper(6, 3);
        Check.refuses("10: not sound", Check.STATE, () -> books.reverse(3, 0));
        Check.refuses("10: asked for it, and not sound", Check.UNSUPPORTED, () -> books.reverse(2, 0));
        Check.refuses("10: unknown, and not sound", Check.UNKNOWN, () -> books.reverse(3, 1));
        books.restore(0);
        Check.answers("10: sound", 1, () -> books.reverse(3, 0));
    }

    private static void reverseFullLog() {
        CertifiedBooks books = Books.withTransferRun(39);
        Check.answers("10: the last entry", 39, () -> books.reverse(3, 38));
        Check.refuses("10: a full log", Check.STATE, () -> books.reverse(3, 37));
        Check.answers("10: not reversed", CertifiedBooks.NONE, () -> books.entry(37, 4));
        Check.answers("10: forty entries", 40, books::entries);
        Check.answers("10: what they posted", 380000, () -> books.balance(0));
    }
}
