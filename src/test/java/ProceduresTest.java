/** Promises 1 to 5 and 20: procedures, who certifies them and who may run them. */
public final class ProceduresTest {
    public static void main(String[] args) {
        newObject();
        draw();
        drawRefuses();
        add();
        addRefuses();
        addTestsInOrder();
        certify();
        certifyRefuses();
        certifyRefusesNoOfficer();
        certifyTwoToFourLines();
        lastProcedure();
        grant();
        grantRefuses();
        mayRun();
        mayRunUnknown();
        Check.end();
    }

    private static void newObject() {
        CertifiedBooks books = new CertifiedBooks();
        Check.answers("1: NONE", -1, () -> CertifiedBooks.NONE);
        Check.answers("1: no entries", 0, books::entries);
        Check.answers("1: sound", true, books::sound);
        for (int i = 0; i < 8; i++) {
            int number = i;
            Check.answers("1: balance", 0, () -> books.balance(number));
            Check.answers("1: balanceAt", 0, () -> books.balanceAt(number, 0));
            Check.answers("1: first floor", -Books.LIMIT, () -> books.floor(0, number, 0));
            Check.answers("1: may run nothing", false, () -> books.mayRun(number, 0));
        }
        for (int i = 0; i < 6; i++) {
            int number = i;
            Check.answers("1: no request", CertifiedBooks.NONE, () -> books.requested(number));
        }
        Check.refuses("1: no procedure", Check.UNKNOWN, () -> books.add(0, 0, 1));
        Check.refuses("1: no entry", Check.UNKNOWN, () -> books.amount(0));
        books.draw(0, 1);
        Check.answers("1: another object is apart", 0, () -> new CertifiedBooks().draw(0, 1));
    }

    private static void draw() {
        CertifiedBooks books = new CertifiedBooks();
        for (int i = 0; i < 10; i++) {
            int number = i;
            Check.answers("2: draws up", number, () -> books.draw(number % 8, number % 2 == 0 ? 100 : -100));
            Check.answers("2: it has one line", 2, () -> books.add(number, (number + 1) % 8, 1));
        }
        Check.refuses("2: an eleventh", Check.STATE, () -> books.draw(0, 1));
        Check.refuses("2: a share before the tenth", Check.ARGUMENT, () -> books.draw(7, 101));
        Check.refuses("2: an account before that", Check.UNKNOWN, () -> books.draw(8, 101));
        Check.refuses("2: there is no eleventh", Check.UNKNOWN, () -> books.add(10, 0, 1));
    }

    private static void drawRefuses() {
        CertifiedBooks books = new CertifiedBooks();
        for (int account : new int[] {-1, 8, Integer.MIN_VALUE, Integer.MAX_VALUE}) {
            Check.refuses("2: account " + account, Check.UNKNOWN, () -> books.draw(account, 1));
        }
        for (int share : new int[] {0, -101, 101, Integer.MIN_VALUE, Integer.MAX_VALUE}) {
            Check.refuses("2: share " + share, Check.ARGUMENT, () -> books.draw(0, share));
        }
        Check.refuses("2: account and share", Check.UNKNOWN, () -> books.draw(-1, 0));
        Check.answers("2: nothing was drawn up", 0, () -> books.draw(7, -1));
    }

    private static void add() {
        CertifiedBooks books = new CertifiedBooks();
        books.draw(0, 1);
        books.draw(0, 1);
        Check.answers("3: second line", 2, () -> books.add(0, 7, -100));
        Check.answers("3: third line", 3, () -> books.add(0, 1, 100));
        Check.answers("3: other procedure", 2, () -> books.add(1, 7, -1));
        Check.answers("3: fourth line", 4, () -> books.add(0, 2, -1));
        Check.happens("3: all lines count", () -> books.certify(0, 0));
    }

    private static void addRefuses() {
        CertifiedBooks books = new CertifiedBooks();
        books.draw(0, 1);
        for (int number : new int[] {-1, 1, 10, Integer.MIN_VALUE, Integer.MAX_VALUE}) {
            Check.refuses("3: procedure " + number, Check.UNKNOWN, () -> books.add(number, 1, 1));
        }
        for (int account : new int[] {-1, 8, Integer.MIN_VALUE, Integer.MAX_VALUE}) {
            Check.refuses("3: account " + account, Check.UNKNOWN, () -> books.add(0, account, 1));
        }
        for (int share : new int[] {0, -101, 101, Integer.MIN_VALUE, Integer.MAX_VALUE}) {
            Check.refuses("3: share " + share, Check.ARGUMENT, () -> books.add(0, 1, share));
        }
        Check.refuses("3: a line has the account", Check.ARGUMENT, () -> books.add(0, 0, -1));
        Check.answers("3: no line was added", 2, () -> books.add(0, 1, 5));
        Check.refuses("3: the second line has it", Check.ARGUMENT, () -> books.add(0, 1, -1));
    }

    private static void addTestsInOrder() {
        CertifiedBooks books = new CertifiedBooks();
        Books.addProcedure(books, 0, 1, 1, -1);
        Check.refuses("3: certified", Check.STATE, () -> books.add(0, 2, 1));
        Check.refuses("3: a line has it, and certified", Check.ARGUMENT, () -> books.add(0, 1, 1));
        Check.refuses("3: share, and certified", Check.ARGUMENT, () -> books.add(0, 2, 0));
        Check.refuses("3: account, and share", Check.UNKNOWN, () -> books.add(0, 8, 0));
        Check.refuses("3: procedure, and share", Check.UNKNOWN, () -> books.add(1, 0, 0));
        books.draw(0, 1);
        books.add(1, 1, 1);
        books.add(1, 2, 1);
        books.add(1, 3, 1);
        Check.refuses("3: a fifth line", Check.STATE, () -> books.add(1, 4, -3));
        Check.refuses("3: a line has it, and four", Check.ARGUMENT, () -> books.add(1, 3, 1));
        Check.refuses("3: share, and four", Check.ARGUMENT, () -> books.add(1, 4, 101));
    }

    private static void certify() {
        CertifiedBooks books = new CertifiedBooks();
        for (int officer = 0; officer < 2; officer++) {
            int user = officer;
            books.draw(0, 50);
            books.add(user, 1, -50);
            books.grant(1 - user, user, user, true);
            books.grant(user, 1 - user, user, true);
            books.grant(0, 5, user, true);
            Check.answers("4: not yet certified", false, () -> books.mayRun(5, user));
            Check.happens("4: certifies", () -> books.certify(user, user));
            Check.answers("4: certified", true, () -> books.mayRun(5, user));
            Check.answers("4: by that officer", false, () -> books.mayRun(user, user));
            Check.answers("4: not by the other", true, () -> books.mayRun(1 - user, user));
        }
    }

    private static void certifyRefuses() {
        CertifiedBooks books = new CertifiedBooks();
        books.draw(0, 60);
        Check.refuses("4: one line alone", Check.STATE, () -> books.certify(0, 0));
        books.add(0, 1, -59);
        Check.refuses("4: shares make 1", Check.STATE, () -> books.certify(0, 0));
        books.add(0, 2, -2);
        Check.refuses("4: shares make -1", Check.STATE, () -> books.certify(0, 0));
        books.add(0, 3, 1);
        Check.happens("4: shares make 0", () -> books.certify(1, 0));
        Check.refuses("4: certified by the same", Check.STATE, () -> books.certify(1, 0));
        Check.refuses("4: certified by another", Check.STATE, () -> books.certify(0, 0));
        books.grant(1, 0, 0, true);
        Check.answers("4: the first certified it", true, () -> books.mayRun(0, 0));
    }

    private static void certifyRefusesNoOfficer() {
        CertifiedBooks books = new CertifiedBooks();
        books.draw(0, 60);
        for (int number : new int[] {-1, 1, 10, Integer.MIN_VALUE, Integer.MAX_VALUE}) {
            Check.refuses("4: procedure " + number, Check.UNKNOWN, () -> books.certify(0, number));
        }
        for (int user : new int[] {-1, 8, Integer.MIN_VALUE, Integer.MAX_VALUE}) {
            Check.refuses("4: user " + user, Check.UNKNOWN, () -> books.certify(user, 0));
        }
        for (int i = 2; i < 8; i++) {
            int user = i;
            Check.refuses("4: no officer", Check.UNSUPPORTED, () -> books.certify(user, 0));
        }
        Check.refuses("4: procedure before officer", Check.UNKNOWN, () -> books.certify(2, 1));
        books.add(0, 1, -60);
        Check.refuses("4: no officer, procedure in order", Check.UNSUPPORTED, () -> books.certify(2, 0));
        Check.happens("4: still not certified", () -> books.certify(0, 0));
    }

    private static void certifyTwoToFourLines() {
        CertifiedBooks books = new CertifiedBooks();
        for (int lines = 1; lines <= 4; lines++) {
            int procedure = books.draw(0, 100);
            for (int line = 1; line < lines - 1; line++) {
                books.add(procedure, line, -1);
            }
            if (lines == 1) {
                Check.refuses("4: one line", Check.STATE, () -> books.certify(0, procedure));
                continue;
            }
            int last = 2 - lines;
            Check.answers("4: lines", lines, () -> books.add(procedure, 7, -100 - last));
            Check.happens("4: certifies " + lines + " lines", () -> books.certify(0, procedure));
        }
    }

    private static void lastProcedure() {
        CertifiedBooks books = new CertifiedBooks();
        for (int i = 0; i < 10; i++) {
            books.draw(0, 100);
        }
        Check.answers("3: the last procedure", 2, () -> books.add(9, 7, -100));
        Check.happens("4: the last procedure", () -> books.certify(1, 9));
        Check.refuses("4: the one before has one line", Check.STATE, () -> books.certify(1, 8));
        Check.answers("5: the last procedure", true, () -> books.grant(1, 7, 9, true));
        Check.answers("20: the last procedure", true, () -> books.mayRun(7, 9));
        Check.answers("20: not the one before", false, () -> books.mayRun(7, 8));
        Check.answers("7: the last procedure", 0, () -> books.ask(7, 9, 30));
        Check.answers("17: the last procedure", 9, () -> books.entry(0, 0));
        Check.answers("14: the last account", -30, () -> books.balance(7));
    }

    private static void grant() {
        CertifiedBooks books = Books.withTransfer();
        books.draw(0, 1);
        Check.answers("5: no change to take none back", false, () -> books.grant(0, 7, 0, false));
        Check.answers("5: grants", true, () -> books.grant(0, 7, 0, true));
        Check.answers("5: grants again", false, () -> books.grant(1, 7, 0, true));
        Check.answers("5: granted", true, () -> books.mayRun(7, 0));
        Check.answers("5: not to another", false, () -> books.mayRun(6, 0));
        Check.answers("5: another procedure, not certified", true, () -> books.grant(0, 7, 1, true));
        Check.answers("5: takes back", true, () -> books.grant(1, 7, 0, false));
        Check.answers("5: takes back again", false, () -> books.grant(0, 7, 0, false));
        Check.answers("5: taken back", false, () -> books.mayRun(7, 0));
        Check.answers("5: the other is not", false, () -> books.grant(1, 7, 1, true));
        Check.answers("5: to who certified it", true, () -> books.grant(1, 0, 0, true));
        Check.answers("5: to the other officer", true, () -> books.grant(0, 1, 0, true));
        Check.answers("5: who may run it", true, () -> books.mayRun(1, 0));
    }

    private static void grantRefuses() {
        CertifiedBooks books = Books.withTransfer();
        for (int unknown : new int[] {-1, 8, Integer.MIN_VALUE, Integer.MAX_VALUE}) {
            Check.refuses("5: officer " + unknown, Check.UNKNOWN, () -> books.grant(unknown, 5, 0, true));
            Check.refuses("5: user " + unknown, Check.UNKNOWN, () -> books.grant(0, unknown, 0, true));
            Check.refuses("5: procedure " + unknown, Check.UNKNOWN, () -> books.grant(0, 5, unknown, true));
        }
        Check.refuses("5: procedure 1", Check.UNKNOWN, () -> books.grant(0, 5, 1, true));
        Check.refuses("5: user before officer", Check.UNKNOWN, () -> books.grant(2, 8, 0, true));
        Check.refuses("5: procedure before officer", Check.UNKNOWN, () -> books.grant(2, 3, 1, true));
        Check.refuses("5: procedure before oneself", Check.UNKNOWN, () -> books.grant(0, 0, 1, true));
        for (int i = 2; i < 8; i++) {
            int user = i;
            Check.refuses("5: no officer", Check.UNSUPPORTED, () -> books.grant(user, 5, 0, true));
        }
        Check.refuses("5: oneself, 0", Check.UNSUPPORTED, () -> books.grant(0, 0, 0, true));
        Check.refuses("5: oneself, 1", Check.UNSUPPORTED, () -> books.grant(1, 1, 0, true));
        Check.refuses("5: takes back from oneself", Check.UNSUPPORTED, () -> books.grant(1, 1, 0, false));
        Check.answers("5: nothing granted", true, () -> books.grant(0, 5, 0, true));
        Check.answers("5: nor to oneself", true, () -> books.grant(0, 1, 0, true));
        Check.refuses("5: taken back by no officer", Check.UNSUPPORTED, () -> books.grant(5, 5, 0, false));
        Check.answers("5: still granted", true, () -> books.mayRun(5, 0));
    }

    private static void mayRun() {
        CertifiedBooks books = new CertifiedBooks();
        books.draw(0, 1);
        books.add(0, 1, -1);
        books.grant(0, 6, 0, true);
        Check.answers("20: granted, not certified", false, () -> books.mayRun(6, 0));
        books.certify(1, 0);
        Check.answers("20: granted, certified", true, () -> books.mayRun(6, 0));
        Check.answers("20: certified, not granted", false, () -> books.mayRun(5, 0));
        Check.answers("20: an officer, not granted", false, () -> books.mayRun(0, 0));
        books.grant(0, 1, 0, true);
        Check.answers("20: who certified it", false, () -> books.mayRun(1, 0));
        books.grant(0, 7, 0, true);
        Check.answers("20: the last user", true, () -> books.mayRun(7, 0));
        books.tamper(0, 1);
        Check.answers("20: whatever the books are", true, () -> books.mayRun(7, 0));
    }

    private static void mayRunUnknown() {
        CertifiedBooks books = Books.withTransfer();
        for (int unknown : new int[] {-1, 8, 9, 10, Integer.MIN_VALUE, Integer.MAX_VALUE}) {
            Check.answers("20: user " + unknown, false, () -> books.mayRun(unknown, 0));
            Check.answers("20: procedure " + unknown, false, () -> books.mayRun(2, unknown));
            Check.answers("20: both " + unknown, false, () -> books.mayRun(unknown, unknown));
        }
        Check.answers("20: procedure 1", false, () -> books.mayRun(2, 1));
        Check.answers("20: both known", true, () -> books.mayRun(2, 0));
    }
}
