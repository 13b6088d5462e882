/** Books that the tests begin with. */
final class Books {
    static final long LIMIT = 1000000000000L;
    static final long MOST = 100000000000L;

    private Books() {
    }

    /** Procedure 0 brings whole amounts from account 1 to 0; officer 0 certified it, users 2, 3 and 4 may run it. */
    static CertifiedBooks withTransfer() {
        CertifiedBooks books = new CertifiedBooks();
        addProcedure(books, 0, 100, 1, -100);
        return books;
    }

    /** As withTransfer, and account 0 holds what times runs for 10000 brought there. */
    static CertifiedBooks withTransferRun(int times) {
        CertifiedBooks books = withTransfer();
        for (int i = 0; i < times; i++) {
            books.ask(2, 0, 10000);
        }
        return books;
    }

    /** Brings 100000000000 from account 1 to 0, times over, each run asked for by 2 and approved by 3. */
    static void bringMost(CertifiedBooks books, int times) {
        for (int i = 0; i < times; i++) {
            books.approve(3, books.ask(2, 0, MOST) - 100);
        }
    }

    /** Draws up a procedure of accounts and shares by turns, has officer 0 certify it, and grants it to 2, 3 and 4. */
    static int addProcedure(CertifiedBooks books, int... lines) {
        int number = books.draw(lines[0], lines[1]);
        for (int i = 2; i < lines.length; i += 2) {
            books.add(number, lines[i], lines[i + 1]);
        }
        books.certify(0, number);
        for (int user = 2; user <= 4; user++) {
            books.grant(1, user, number, true);
        }
        return number;
    }
}
