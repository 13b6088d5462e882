import java.util.ArrayList;
import java.util.List;

/**
 * Every cause of every throw, and every two causes of different throws at once: the one that the document names
 * first is thrown, and the books then answer whatever comes next as books do that were never asked.
 */
public final class RefusalTest {
    /** Some answers take two calls, and up to some 100 calls go before: an object is promised for 512. */
    private static final int MOST_ANSWERS = 300;

    private static final Probe[] PROBES = {
        RefusalTest::readBooks, RefusalTest::readLog, RefusalTest::addLines, RefusalTest::certifyAndRun,
        RefusalTest::setFloors, RefusalTest::approveAll, RefusalTest::withdrawAll, RefusalTest::reverseAll,
        RefusalTest::restoreAndDraw, RefusalTest::grantAll,
    };

    private interface Step {
        void happen(CertifiedBooks books);
    }

    private interface Probe {
        void look(CertifiedBooks books, List<Object> seen);
    }

    public static void main(String[] args) {
        draw();
        add();
        certify();
        grant();
        floor();
        askUnknown();
        askUnsupported();
        askArgument();
        askState();
        approveUnknown();
        approveUnsupported();
        approveState();
        withdraw();
        reverseUnknown();
        reverseUnsupported();
        reverseState();
        tamper();
        restore();
        reads();
        Check.end();
    }

    private static void draw() {
        refuses("2: account -1", Check.UNKNOWN, books -> books.draw(-1, 1));
        refuses("2: account 8", Check.UNKNOWN, books -> books.draw(8, 1));
        refuses("2: account, and share", Check.UNKNOWN, books -> books.draw(8, 0));
        refuses("2: account, and ten", Check.UNKNOWN, books -> books.draw(8, 1), RefusalTest::drawUpTen);
        refuses("2: share 0", Check.ARGUMENT, books -> books.draw(0, 0));
        refuses("2: share 101", Check.ARGUMENT, books -> books.draw(0, 101));
        refuses("2: share -101", Check.ARGUMENT, books -> books.draw(0, -101));
        refuses("2: share 0, and ten", Check.ARGUMENT, books -> books.draw(0, 0), RefusalTest::drawUpTen);
        refuses("2: share 101, and ten", Check.ARGUMENT, books -> books.draw(0, 101), RefusalTest::drawUpTen);
        refuses("2: share -101, and ten", Check.ARGUMENT, books -> books.draw(0, -101), RefusalTest::drawUpTen);
        refuses("2: ten", Check.STATE, books -> books.draw(0, 1), RefusalTest::drawUpTen);
    }

    private static void add() {
        refuses("3: procedure -1", Check.UNKNOWN, books -> books.add(-1, 7, 1));
        refuses("3: procedure 4 of 4", Check.UNKNOWN, books -> books.add(4, 7, 1));
        refuses("3: procedure 10 of 10", Check.UNKNOWN, books -> books.add(10, 7, 1), RefusalTest::drawUpTen);
        refuses("3: procedure, and share", Check.UNKNOWN, books -> books.add(4, 7, 0));
        refuses("3: account -1", Check.UNKNOWN, books -> books.add(1, -1, 1));
        refuses("3: account 8", Check.UNKNOWN, books -> books.add(1, 8, 1));
        refuses("3: account, and share", Check.UNKNOWN, books -> books.add(1, 8, 101));
        refuses("3: account, and certified", Check.UNKNOWN, books -> books.add(0, 8, 1));
        refuses("3: account, and four lines", Check.UNKNOWN, books -> books.add(2, -1, 1));
        refuses("3: share 0", Check.ARGUMENT, books -> books.add(1, 7, 0));
        refuses("3: share 101", Check.ARGUMENT, books -> books.add(1, 7, 101));
        refuses("3: share -101", Check.ARGUMENT, books -> books.add(1, 7, -101));
        refuses("3: share, and certified", Check.ARGUMENT, books -> books.add(0, 7, 0));
        refuses("3: share, and four lines", Check.ARGUMENT, books -> books.add(2, 7, 101));
        refuses("3: the first line has it", Check.ARGUMENT, books -> books.add(3, 2, 1));
        refuses("3: the last line has it", Check.ARGUMENT, books -> books.add(3, 3, 1));
        refuses("3: a line has it, and certified", Check.ARGUMENT, books -> books.add(0, 1, 1));
        refuses("3: a line has it, and four lines", Check.ARGUMENT, books -> books.add(2, 5, 1));
        refuses("3: certified", Check.STATE, books -> books.add(0, 7, 1));
        refuses("3: four lines", Check.STATE, books -> books.add(2, 7, 1));
        refuses("3: certified, and four lines", Check.STATE, books -> books.add(2, 7, 1), books -> books.certify(0, 2));
    }

    private static void certify() {
        refuses("4: user -1", Check.UNKNOWN, books -> books.certify(-1, 2));
        refuses("4: user 8", Check.UNKNOWN, books -> books.certify(8, 2));
        refuses("4: user, and certified", Check.UNKNOWN, books -> books.certify(8, 0));
        refuses("4: user, and one line", Check.UNKNOWN, books -> books.certify(-1, 1));
        refuses("4: user, and shares", Check.UNKNOWN, books -> books.certify(8, 3));
        refuses("4: procedure -1", Check.UNKNOWN, books -> books.certify(0, -1));
        refuses("4: procedure 4 of 4", Check.UNKNOWN, books -> books.certify(0, 4));
        refuses("4: procedure 10 of 10", Check.UNKNOWN, books -> books.certify(0, 10), RefusalTest::drawUpTen);
        refuses("4: procedure, and no officer", Check.UNKNOWN, books -> books.certify(2, 4));
        refuses("4: no officer", Check.UNSUPPORTED, books -> books.certify(2, 2));
        refuses("4: no officer, the last user", Check.UNSUPPORTED, books -> books.certify(7, 2));
        refuses("4: no officer, and certified", Check.UNSUPPORTED, books -> books.certify(2, 0));
        refuses("4: no officer, and one line", Check.UNSUPPORTED, books -> books.certify(2, 1));
        refuses("4: no officer, and shares", Check.UNSUPPORTED, books -> books.certify(2, 3));
        refuses("4: certified", Check.STATE, books -> books.certify(1, 0));
        refuses("4: certified by the same", Check.STATE, books -> books.certify(0, 0));
        refuses("4: one line", Check.STATE, books -> books.certify(1, 1));
        refuses("4: shares make 1", Check.STATE, books -> books.certify(1, 3));
    }

    private static void grant() {
        for (boolean may : new boolean[] {true, false}) {
            refuses("5: officer -1", Check.UNKNOWN, books -> books.grant(-1, 2, 0, may));
            refuses("5: officer 8", Check.UNKNOWN, books -> books.grant(8, 2, 0, may));
            refuses("5: user -1", Check.UNKNOWN, books -> books.grant(0, -1, 0, may));
            refuses("5: user 8", Check.UNKNOWN, books -> books.grant(0, 8, 0, may));
            refuses("5: officer and user", Check.UNKNOWN, books -> books.grant(8, 8, 0, may));
            refuses("5: procedure -1", Check.UNKNOWN, books -> books.grant(0, 2, -1, may));
            refuses("5: procedure 4 of 4", Check.UNKNOWN, books -> books.grant(0, 2, 4, may));
            refuses("5: procedure 10 of 10", Check.UNKNOWN, books -> books.grant(0, 2, 10, may), RefusalTest::drawUpTen);
            refuses("5: user, and no officer", Check.UNKNOWN, books -> books.grant(2, 8, 0, may));
            refuses("5: procedure, and no officer", Check.UNKNOWN, books -> books.grant(2, 3, 4, may));
            refuses("5: procedure, and oneself", Check.UNKNOWN, books -> books.grant(0, 0, 4, may));
            refuses("5: no officer", Check.UNSUPPORTED, books -> books.grant(2, 5, 0, may));
            refuses("5: no officer, the last user", Check.UNSUPPORTED, books -> books.grant(7, 2, 0, may));
            refuses("5: no officer, and oneself", Check.UNSUPPORTED, books -> books.grant(3, 3, 0, may));
            refuses("5: oneself", Check.UNSUPPORTED, books -> books.grant(0, 0, 2, may));
            refuses("5: oneself, granted by another", Check.UNSUPPORTED, books -> books.grant(1, 1, 2, may),
                    books -> books.grant(0, 1, 2, true));
        }
    }

    private static void floor() {
        refuses("6: officer -1", Check.UNKNOWN, books -> books.floor(-1, 0, 1));
        refuses("6: officer 8", Check.UNKNOWN, books -> books.floor(8, 0, 1));
        refuses("6: officer, and floor", Check.UNKNOWN, books -> books.floor(8, 0, Books.LIMIT + 1));
        refuses("6: account -1", Check.UNKNOWN, books -> books.floor(0, -1, 1));
        refuses("6: account 8", Check.UNKNOWN, books -> books.floor(0, 8, 1));
        refuses("6: account, and no officer", Check.UNKNOWN, books -> books.floor(2, 8, 1));
        refuses("6: account, and floor", Check.UNKNOWN, books -> books.floor(0, 8, Books.LIMIT + 1));
        refuses("6: no officer", Check.UNSUPPORTED, books -> books.floor(2, 0, 1));
        refuses("6: no officer, the last user", Check.UNSUPPORTED, books -> books.floor(7, 0, 1));
        refuses("6: no officer, and above", Check.UNSUPPORTED, books -> books.floor(2, 0, Books.LIMIT + 1));
        refuses("6: no officer, and below", Check.UNSUPPORTED, books -> books.floor(2, 0, -Books.LIMIT - 1));
        refuses("6: above", Check.ARGUMENT, books -> books.floor(0, 0, Books.LIMIT + 1));
        refuses("6: below", Check.ARGUMENT, books -> books.floor(1, 0, -Books.LIMIT - 1));
    }

    private static void askUnknown() {
        refuses("7: user -1", Check.UNKNOWN, books -> books.ask(-1, 0, 1));
        refuses("7: user 8", Check.UNKNOWN, books -> books.ask(8, 0, 1));
        refuses("7: user, and amount", Check.UNKNOWN, books -> books.ask(8, 0, 0));
        refuses("7: procedure -1", Check.UNKNOWN, books -> books.ask(2, -1, 1));
        refuses("7: procedure 4 of 4", Check.UNKNOWN, books -> books.ask(2, 4, 1));
        refuses("7: procedure 10 of 10", Check.UNKNOWN, books -> books.ask(2, 10, 1), RefusalTest::drawUpTen);
        refuses("7: procedure, and amount", Check.UNKNOWN, books -> books.ask(2, 4, 0));
        for (Step hindrance : hindrances()) {
            refuses("7: user, and the books", Check.UNKNOWN, books -> books.ask(8, 0, 1), hindrance);
            refuses("7: procedure, and the books", Check.UNKNOWN, books -> books.ask(2, 4, 1), hindrance);
        }
        refuses("7: user, and six requests", Check.UNKNOWN, books -> books.ask(8, 0, 10001), RefusalTest::askSix);
    }

    private static void askUnsupported() {
        refuses("7: not granted", Check.UNSUPPORTED, books -> books.ask(5, 0, 1));
        refuses("7: not granted, an officer", Check.UNSUPPORTED, books -> books.ask(1, 0, 1));
        refuses("7: not granted, a request", Check.UNSUPPORTED, books -> books.ask(5, 0, 10001));
        refuses("7: certified it", Check.UNSUPPORTED, books -> books.ask(0, 0, 1), books -> books.grant(1, 0, 0, true));
        refuses("7: not certified", Check.UNSUPPORTED, books -> books.ask(2, 2, 1));
        refuses("7: not granted, and amount", Check.UNSUPPORTED, books -> books.ask(5, 0, 0));
        refuses("7: not certified, and amount", Check.UNSUPPORTED, books -> books.ask(2, 2, Books.MOST + 1));
        for (Step hindrance : hindrances()) {
            refuses("7: not granted, and the books", Check.UNSUPPORTED, books -> books.ask(5, 0, 1), hindrance);
            refuses("7: not certified, and the books", Check.UNSUPPORTED, books -> books.ask(2, 2, 1), hindrance);
        }
        refuses("7: not granted, and six", Check.UNSUPPORTED, books -> books.ask(5, 0, 10001), RefusalTest::askSix);
    }

    private static void askArgument() {
        refuses("7: amount 0", Check.ARGUMENT, books -> books.ask(2, 0, 0));
        refuses("7: amount -1", Check.ARGUMENT, books -> books.ask(2, 0, -1));
        refuses("7: amount one above", Check.ARGUMENT, books -> books.ask(2, 0, Books.MOST + 1));
        for (Step hindrance : hindrances()) {
            refuses("7: amount 0, and the books", Check.ARGUMENT, books -> books.ask(2, 0, 0), hindrance);
            refuses("7: amount, and the books", Check.ARGUMENT, books -> books.ask(2, 0, Books.MOST + 1), hindrance);
        }
        refuses("7: amount, and six", Check.ARGUMENT, books -> books.ask(2, 0, Books.MOST + 1), RefusalTest::askSix);
    }

    private static void askState() {
        for (Step hindrance : hindrances()) {
            refuses("7: the books", Check.STATE, books -> books.ask(2, 0, 10000), hindrance);
        }
        refuses("7: not sound, a request", Check.STATE, books -> books.ask(2, 0, 10001), RefusalTest::tamperOnce);
        refuses("7: a full log, a request", Check.STATE, books -> books.ask(2, 0, 10001), RefusalTest::fillLog);
        refuses("7: six requests", Check.STATE, books -> books.ask(2, 0, 10001), RefusalTest::askSix);
        refuses("7: six requests, the most", Check.STATE, books -> books.ask(2, 0, Books.MOST), RefusalTest::askSix);
        refuses("7: six requests, none needed, fails", Check.STATE, books -> books.ask(2, 0, 10000),
                RefusalTest::askSix, RefusalTest::raiseFloors);
    }

    private static void approveUnknown() {
        refuses("8: user -1", Check.UNKNOWN, books -> books.approve(-1, 0));
        refuses("8: user 8", Check.UNKNOWN, books -> books.approve(8, 0));
        refuses("8: request -1", Check.UNKNOWN, books -> books.approve(4, -1));
        refuses("8: request 6", Check.UNKNOWN, books -> books.approve(4, 6), RefusalTest::askSix);
        refuses("8: request 0 as it was answered", Check.UNKNOWN, books -> books.approve(4, 100));
        refuses("8: never in use", Check.UNKNOWN, books -> books.approve(4, 2));
        refuses("8: withdrawn", Check.UNKNOWN, books -> books.approve(4, 0), books -> books.withdraw(2, 0));
        refuses("8: approved", Check.UNKNOWN, books -> books.approve(4, 0), books -> books.approve(3, 0));
        refuses("8: request, and not granted", Check.UNKNOWN, books -> books.approve(5, 2));
        for (Step hindrance : hindrances()) {
            refuses("8: user, and the books", Check.UNKNOWN, books -> books.approve(8, 0), hindrance);
            refuses("8: request, and the books", Check.UNKNOWN, books -> books.approve(4, 2), hindrance);
        }
    }

    private static void approveUnsupported() {
        refuses("8: asked for it", Check.UNSUPPORTED, books -> books.approve(2, 0));
        refuses("8: not granted", Check.UNSUPPORTED, books -> books.approve(5, 0));
        refuses("8: certified it", Check.UNSUPPORTED, books -> books.approve(0, 0), books -> books.grant(1, 0, 0, true));
        refuses("8: who asked may not run it", Check.UNSUPPORTED, books -> books.approve(4, 0),
                books -> books.grant(0, 2, 0, false));
        for (Step hindrance : hindrances()) {
            refuses("8: asked for it, and the books", Check.UNSUPPORTED, books -> books.approve(2, 0), hindrance);
            refuses("8: not granted, and the books", Check.UNSUPPORTED, books -> books.approve(5, 0), hindrance);
            refuses("8: who asked may not, and the books", Check.UNSUPPORTED, books -> books.approve(4, 0),
                    hindrance, books -> books.grant(0, 2, 0, false));
        }
    }

    private static void approveState() {
        for (Step hindrance : hindrances()) {
            refuses("8: the books", Check.STATE, books -> books.approve(4, 0), hindrance);
            refuses("8: the books, six requests", Check.STATE, books -> books.approve(4, 5),
                    RefusalTest::askSix, hindrance);
        }
    }

    private static void withdraw() {
        refuses("9: user -1", Check.UNKNOWN, books -> books.withdraw(-1, 0));
        refuses("9: user 8", Check.UNKNOWN, books -> books.withdraw(8, 0));
        refuses("9: request -1", Check.UNKNOWN, books -> books.withdraw(2, -1));
        refuses("9: request 6", Check.UNKNOWN, books -> books.withdraw(2, 6), RefusalTest::askSix);
        refuses("9: never in use", Check.UNKNOWN, books -> books.withdraw(2, 2));
        refuses("9: withdrawn", Check.UNKNOWN, books -> books.withdraw(2, 0), books -> books.withdraw(2, 0));
        refuses("9: approved", Check.UNKNOWN, books -> books.withdraw(2, 0), books -> books.approve(3, 0));
        refuses("9: request, and not granted", Check.UNKNOWN, books -> books.withdraw(5, 2));
        refuses("9: not granted", Check.UNSUPPORTED, books -> books.withdraw(5, 0));
        refuses("9: an officer, not granted", Check.UNSUPPORTED, books -> books.withdraw(1, 0));
        refuses("9: certified it", Check.UNSUPPORTED, books -> books.withdraw(0, 0), books -> books.grant(1, 0, 0, true));
        refuses("9: granted no more", Check.UNSUPPORTED, books -> books.withdraw(4, 0),
                books -> books.grant(0, 4, 0, false));
    }

    private static void reverseUnknown() {
        refuses("10: user -1", Check.UNKNOWN, books -> books.reverse(-1, 1));
        refuses("10: user 8", Check.UNKNOWN, books -> books.reverse(8, 1));
        refuses("10: user, and a reversal", Check.UNKNOWN, books -> books.reverse(8, 2));
        refuses("10: user, and reversed", Check.UNKNOWN, books -> books.reverse(8, 0));
        refuses("10: entry -1", Check.UNKNOWN, books -> books.reverse(2, -1));
        refuses("10: entry 3 of 3", Check.UNKNOWN, books -> books.reverse(2, 3));
        refuses("10: entry 40 of 40", Check.UNKNOWN, books -> books.reverse(3, 40), RefusalTest::fillLog);
        refuses("10: entry, and not granted", Check.UNKNOWN, books -> books.reverse(5, 3));
        for (Step hindrance : hindrances()) {
            refuses("10: user, and the books", Check.UNKNOWN, books -> books.reverse(8, 1), hindrance);
            refuses("10: entry, and the books", Check.UNKNOWN, books -> books.reverse(2, 40), hindrance);
        }
    }

    private static void reverseUnsupported() {
        refuses("10: not granted", Check.UNSUPPORTED, books -> books.reverse(5, 1));
        refuses("10: certified it", Check.UNSUPPORTED, books -> books.reverse(0, 1), books -> books.grant(1, 0, 0, true));
        refuses("10: asked for it", Check.UNSUPPORTED, books -> books.reverse(3, 1));
        refuses("10: not granted, and reversed", Check.UNSUPPORTED, books -> books.reverse(5, 0));
        refuses("10: not granted, and a reversal", Check.UNSUPPORTED, books -> books.reverse(5, 2));
        refuses("10: asked for it, and reversed", Check.UNSUPPORTED, books -> books.reverse(2, 0));
        refuses("10: asked for it, and a reversal", Check.UNSUPPORTED, books -> books.reverse(4, 2));
        for (Step hindrance : hindrances()) {
            refuses("10: not granted, and the books", Check.UNSUPPORTED, books -> books.reverse(5, 1), hindrance);
            refuses("10: asked for it, and the books", Check.UNSUPPORTED, books -> books.reverse(3, 1), hindrance);
        }
    }

    private static void reverseState() {
        refuses("10: reversed", Check.STATE, books -> books.reverse(3, 0));
        refuses("10: a reversal", Check.STATE, books -> books.reverse(3, 2));
        for (Step hindrance : hindrances()) {
            refuses("10: the books", Check.STATE, books -> books.reverse(2, 1), hindrance);
        }
    }

    private static void tamper() {
        refuses("11: account -1", Check.UNKNOWN, books -> books.tamper(-1, 1));
        refuses("11: account 8", Check.UNKNOWN, books -> books.tamper(8, 1));
        refuses("11: account, and by", Check.UNKNOWN, books -> books.tamper(8, 1000001));
        refuses("11: by one above", Check.ARGUMENT, books -> books.tamper(0, 1000001));
        refuses("11: by one below", Check.ARGUMENT, books -> books.tamper(0, -1000001));
        refuses("11: by, and above the limit", Check.ARGUMENT, books -> books.tamper(0, 1000001),
                RefusalTest::bringToLimit);
        refuses("11: by, and below the limit", Check.ARGUMENT, books -> books.tamper(1, -1000001),
                RefusalTest::bringToLimit);
        refuses("11: above the limit", Check.STATE, books -> books.tamper(0, 1), RefusalTest::bringToLimit);
        refuses("11: below the limit", Check.STATE, books -> books.tamper(1, -1), RefusalTest::bringToLimit);
    }

    private static void restore() {
        refuses("13: user -1", Check.UNKNOWN, books -> books.restore(-1), RefusalTest::tamperOnce);
        refuses("13: user 8", Check.UNKNOWN, books -> books.restore(8), RefusalTest::tamperOnce);
        refuses("13: no officer", Check.UNSUPPORTED, books -> books.restore(2), RefusalTest::tamperOnce);
        refuses("13: the last user", Check.UNSUPPORTED, books -> books.restore(7), RefusalTest::tamperOnce);
    }

    private static void reads() {
        refuses("14: account -1", Check.UNKNOWN, books -> books.balance(-1));
        refuses("14: account 8", Check.UNKNOWN, books -> books.balance(8));
        refuses("15: account -1", Check.UNKNOWN, books -> books.balanceAt(-1, 0));
        refuses("15: account 8", Check.UNKNOWN, books -> books.balanceAt(8, 0));
        refuses("15: n -1", Check.UNKNOWN, books -> books.balanceAt(0, -1));
        refuses("15: n 4 of 3", Check.UNKNOWN, books -> books.balanceAt(0, 4));
        refuses("15: n 41 of 40", Check.UNKNOWN, books -> books.balanceAt(0, 41), RefusalTest::fillLog);
        refuses("17: entry -1", Check.UNKNOWN, books -> books.entry(-1, 0));
        refuses("17: entry 3 of 3", Check.UNKNOWN, books -> books.entry(3, 0));
        refuses("17: entry 40 of 40", Check.UNKNOWN, books -> books.entry(40, 0), RefusalTest::fillLog);
        refuses("17: what -1", Check.UNKNOWN, books -> books.entry(0, -1));
        refuses("17: what 5", Check.UNKNOWN, books -> books.entry(0, 5));
        refuses("18: entry -1", Check.UNKNOWN, books -> books.amount(-1));
        refuses("18: entry 3 of 3", Check.UNKNOWN, books -> books.amount(3));
        refuses("18: entry 40 of 40", Check.UNKNOWN, books -> books.amount(40), RefusalTest::fillLog);
        refuses("19: request -1", Check.UNKNOWN, books -> books.requested(-1));
        refuses("19: request 6", Check.UNKNOWN, books -> books.requested(6), RefusalTest::askSix);
    }

    /**
     * Procedure 0 may be run by 2, 3 and 4; 1 has one line, 2 four and could be certified, the shares of 3 make 1.
     * Entry 2 reverses entry 0; entry 1 was asked for by 3. Requests 0 and 1 were asked for by 2 and 3.
     */
    private static CertifiedBooks usualBooks() {
        CertifiedBooks books = Books.withTransfer();
        books.draw(2, 60);
        books.draw(2, 10);
        books.add(2, 3, 20);
        books.add(2, 4, -40);
        books.add(2, 5, 10);
        books.draw(2, 50);
        books.add(3, 3, -49);
        books.grant(0, 2, 2, true);
        books.ask(2, 0, 10000);
        books.ask(3, 0, 500);
        books.reverse(4, 0);
        books.ask(2, 0, 20000);
        books.ask(3, 0, 30000);
        return books;
    }

    /** What keeps any run of procedure 0, forwards or backwards, from being logged. */
    private static Step[] hindrances() {
        return new Step[] {RefusalTest::tamperOnce, RefusalTest::fillLog, RefusalTest::raiseFloors};
    }

    private static void tamperOnce(CertifiedBooks books) {
        books.tamper(6, 5);
    }

    private static void fillLog(CertifiedBooks books) {
        while (books.entries() < 40) {
            books.ask(2, 0, 1);
        }
    }

    private static void raiseFloors(CertifiedBooks books) {
        books.floor(0, 0, Books.LIMIT);
        books.floor(0, 1, Books.LIMIT);
    }

    private static void askSix(CertifiedBooks books) {
        for (int i = 0; i < 4; i++) {
            books.ask(2, 0, 10001 + i);
        }
    }

    private static void drawUpTen(CertifiedBooks books) {
        for (int i = 0; i < 6; i++) {
            books.draw(i, 7);
        }
    }

    private static void bringToLimit(CertifiedBooks books) {
        books.reverse(2, 1);
        Books.bringMost(books, 10);
    }

    private static void refuses(String call, Class<? extends RuntimeException> due, Step refused, Step... before) {
        for (Probe probe : PROBES) {
            CertifiedBooks books = booksAfter(before);
            Check.refuses(call, due, () -> refused.happen(books));
            compareAnswers(call, look(probe, booksAfter(before)), look(probe, books));
        }
    }

    private static CertifiedBooks booksAfter(Step... steps) {
        CertifiedBooks books = usualBooks();
        for (Step step : steps) {
            step.happen(books);
        }
        return books;
    }

    private static List<Object> look(Probe probe, CertifiedBooks books) {
        List<Object> seen = new ArrayList<>();
        probe.look(books, seen);
        Check.compare("the calls that an object is promised for", true, seen.size() <= MOST_ANSWERS);
        return seen;
    }

    private static void compareAnswers(String call, List<Object> due, List<Object> got) {
        Check.compare(call + ": as many answers later", due.size(), got.size());
        for (int i = 0; i < Math.min(due.size(), got.size()); i++) {
            Check.compare(call + ": later answer " + i, due.get(i), got.get(i));
        }
    }

    private static void answer(List<Object> seen, Check.Call call) {
        seen.add(Check.outcome(call));
    }

    private static void happen(List<Object> seen, Check.Deed deed) {
        answer(seen, () -> {
            deed.happen();
            return "done";
        });
    }

    private static void readBooks(CertifiedBooks books, List<Object> seen) {
        answer(seen, books::sound);
        answer(seen, books::entries);
        for (int i = 0; i < 8; i++) {
            int number = i;
            answer(seen, () -> books.balance(number));
            answer(seen, () -> books.balanceAt(number, 3));
            answer(seen, () -> books.balanceAt(number, books.entries()));
            answer(seen, () -> books.requested(number));
            for (int j = 0; j < 10; j++) {
                int procedure = j;
                answer(seen, () -> books.mayRun(number, procedure));
            }
        }
    }

    private static void readLog(CertifiedBooks books, List<Object> seen) {
        for (int i = 0; i < 40; i++) {
            int entry = i;
            answer(seen, () -> books.amount(entry));
            for (int j = 0; j < 5; j++) {
                int what = j;
                answer(seen, () -> books.entry(entry, what));
            }
        }
    }

    private static void addLines(CertifiedBooks books, List<Object> seen) {
        for (int i = 0; i < 10; i++) {
            int procedure = i;
            for (int j = 0; j < 8; j++) {
                int account = j;
                answer(seen, () -> books.add(procedure, account, 1));
            }
        }
    }

    /** Runs show the shares, of the procedures that could not be certified too once a last line makes them 0. */
    private static void certifyAndRun(CertifiedBooks books, List<Object> seen) {
        answer(seen, () -> books.restore(0));
        for (int i = 0; i < 10; i++) {
            int procedure = i;
            happen(seen, () -> books.certify(1, procedure));
            for (int share : new int[] {-60, -1, -7}) {
                answer(seen, () -> books.add(procedure, 7, share));
                happen(seen, () -> books.certify(1, procedure));
                answer(seen, () -> books.grant(0, 6, procedure, true));
                answer(seen, () -> books.ask(6, procedure, 100));
            }
            for (int j = 0; j < 8; j++) {
                int account = j;
                answer(seen, () -> books.balance(account));
            }
        }
    }

    private static void setFloors(CertifiedBooks books, List<Object> seen) {
        for (int i = 0; i < 8; i++) {
            int account = i;
            answer(seen, () -> books.floor(0, account, 0));
        }
    }

    private static void approveAll(CertifiedBooks books, List<Object> seen) {
        answer(seen, () -> books.restore(0));
        answer(seen, () -> books.grant(0, 6, 0, true));
        for (int i = 0; i < 6; i++) {
            int request = i;
            answer(seen, () -> books.approve(6, request));
            answer(seen, () -> books.amount(books.entries() - 1));
            answer(seen, () -> books.entry(books.entries() - 1, 1));
            answer(seen, () -> books.ask(2, 0, 40000 + request));
        }
    }

    private static void withdrawAll(CertifiedBooks books, List<Object> seen) {
        for (int i = 0; i < 6; i++) {
            int request = i;
            happen(seen, () -> books.withdraw(2, request));
            happen(seen, () -> books.withdraw(3, request));
            answer(seen, () -> books.ask(2, 0, 10001));
        }
    }

    private static void reverseAll(CertifiedBooks books, List<Object> seen) {
        answer(seen, () -> books.restore(0));
        answer(seen, () -> books.grant(0, 6, 0, true));
        for (int i = 0; i < 40; i++) {
            int entry = i;
            answer(seen, () -> books.reverse(6, entry));
        }
        answer(seen, () -> books.balance(0));
    }

    private static void restoreAndDraw(CertifiedBooks books, List<Object> seen) {
        answer(seen, () -> books.restore(1));
        for (int i = 0; i < 11; i++) {
            answer(seen, () -> books.draw(7, 3));
        }
    }

    private static void grantAll(CertifiedBooks books, List<Object> seen) {
        for (int i = 0; i < 10; i++) {
            int procedure = i;
            answer(seen, () -> books.grant(1, 0, procedure, true));
            for (int j = 1; j < 8; j++) {
                int user = j;
                answer(seen, () -> books.grant(0, user, procedure, true));
            }
        }
    }
}
