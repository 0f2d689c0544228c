/** Each promise of the document by its number: ordinary inputs, edges, wrong inputs. */
public final class WrestleBookPromises {
    private static final int LOSES = 0;
    private static final int EVEN = 1;
    private static final int WINS = 2;

    private static final Class<?> INDEX = IndexOutOfBoundsException.class;
    private static final Class<?> ARGUMENT = IllegalArgumentException.class;
    private static final Class<?> STATE = IllegalStateException.class;

    private static final int[] NO_WRESTLERS_OF_TWO = {-1, 2, 12, Integer.MIN_VALUE, Integer.MAX_VALUE};

    private static int checks = 0;
    private static int wrong = 0;

    public static void main(String[] args) {
        newObject();
        join();
        rate();
        bout();
        boutAtTheBounds();
        boutWeights();
        upsets();
        endDrifts();
        endMovesUpAndDown();
        endTakesTheLeaguesInTurn();
        endStartsASeason();
        expected();
        told();
        at();
        count();
        would();
        chance();
        match();
        next();
        foresee();
        mean();
        digest();
        fullBook();
        System.out.println(wrong == 0 ? checks + " checks hold" : wrong + " of " + checks + " checks fail");
        if (wrong != 0) {
            System.exit(1);
        }
    }

    // ---- Promise 1

    private static void newObject() {
        WrestleBook book = new WrestleBook();
        for (int what = 0; what <= 8; what++) {
            due("new: count(" + what + ")", book.count(what), 0);
        }
        due("new: next()", book.next(), -1);
        dueDouble("new: mean()", book.mean(), 0.0);
        WrestleBook other = new WrestleBook();
        other.join(0);
        due("books do not share wrestlers", book.count(1), 0);
    }

    // ---- Promise 2

    private static void join() {
        WrestleBook book = new WrestleBook();
        for (int league : new int[] {-1, 3, Integer.MIN_VALUE, Integer.MAX_VALUE}) {
            dueThrow("join(" + league + ")", book, ARGUMENT, () -> book.join(league));
        }
        for (int number = 0; number < 12; number++) {
            due("join, number " + number, book.join(number % 3), number);
            due("join, its league", book.told(number, 1), number % 3);
        }
        int[] fresh = {1000, 2, 0, 0, 0, 0, 1000, 4, 40};
        for (int what = 0; what <= 8; what++) {
            due("joined: told(11, " + what + ")", book.told(11, what), fresh[what]);
        }
        dueThrow("a thirteenth join(0)", book, STATE, () -> book.join(0));
        dueThrow("a thirteenth join(3)", book, ARGUMENT, () -> book.join(3));
        due("still twelve", book.count(1), 12);
    }

    // ---- Promise 3

    private static void rate() {
        WrestleBook book = rated(1000, 1000);
        due("rate(0, 100)", book.rate(0, 100), 1000);
        due("best behind a low rate", book.told(0, 6), 1000);
        due("rate(0, 3000)", book.rate(0, 3000), 100);
        due("rate(0, 1500)", book.rate(0, 1500), 3000);
        due("rating behind rate", book.told(0, 0), 1500);
        due("best by hand counts", book.told(0, 6), 3000);
        due("the other one is as it was", book.told(1, 0), 1000);
        due("the other one's best is as it was", book.told(1, 6), 1000);
        for (int rating : new int[] {99, 3001, 0, -1000, Integer.MIN_VALUE, Integer.MAX_VALUE}) {
            dueThrow("rate(1, " + rating + ")", book, ARGUMENT, () -> book.rate(1, rating));
        }
        for (int no : NO_WRESTLERS_OF_TWO) {
            dueThrow("rate(" + no + ", 1000)", book, INDEX, () -> book.rate(no, 1000));
            dueThrow("rate(" + no + ", 99)", book, INDEX, () -> book.rate(no, 99));
        }
    }

    // ---- Promise 4

    private static void bout() {
        WrestleBook book = rated(1150, 920);
        // 786 and 214 are expected: 40 * -786 / 1000 is -31.
        due("an upset costs 31", book.bout(0, 1, LOSES), -31);
        dueTold(book, 0, 1119, 0, 0, 1, 1, 0, 1150);
        dueTold(book, 1, 951, 0, 2, 1, 1, 1, 1000);
        // Then 721 and 279 (d is 168): 40 * (500 - 721) / 1000 is -8.
        due("an even bout costs 8", book.bout(0, 1, EVEN), -8);
        dueTold(book, 0, 1111, 0, 1, 2, 2, 0, 1150);
        dueTold(book, 1, 959, 0, 3, 2, 2, 0, 1000);

        WrestleBook fresh = rated(1000, 1000, 1000);
        due("a wins", fresh.bout(0, 1, WINS), 20);
        due("a wins again", fresh.bout(0, 2, WINS), 18);
        dueTold(fresh, 0, 1038, 0, 4, 2, 2, 2, 1038);
        due("even, the row ends", fresh.bout(2, 0, EVEN), 3);
        due("row of 0 behind an even one", fresh.told(0, 5), 0);
        due("b wins and starts a row", fresh.bout(2, 0, LOSES), -17);
        due("row of the second one", fresh.told(0, 5), 1);
        due("row of the loser", fresh.told(2, 5), 0);
        due("who does not fight keeps all", fresh.told(1, 3), 1);
        fresh.end();
        due("a row goes on in the next season", fresh.told(0, 5), 1);

        WrestleBook apart = new WrestleBook();
        apart.join(0);
        apart.join(2);
        due("leagues do not keep them apart", apart.bout(0, 1, WINS), 20);
        boutRefuses();
    }

    private static void boutRefuses() {
        WrestleBook book = rated(1000, 1000);
        for (int no : NO_WRESTLERS_OF_TWO) {
            dueThrow("bout(" + no + ", 0, 1)", book, INDEX, () -> book.bout(no, 0, EVEN));
            dueThrow("bout(0, " + no + ", 1)", book, INDEX, () -> book.bout(0, no, EVEN));
            dueThrow("bout(no, no, 7)", book, INDEX, () -> book.bout(no, no, 7));
        }
        dueThrow("bout(1, 1, 1)", book, ARGUMENT, () -> book.bout(1, 1, EVEN));
        for (int result : new int[] {-1, 3, Integer.MIN_VALUE, Integer.MAX_VALUE}) {
            dueThrow("bout(0, 1, " + result + ")", book, ARGUMENT, () -> book.bout(0, 1, result));
        }
    }

    private static void boutAtTheBounds() {
        WrestleBook top = rated(3000, 3000);
        due("nobody rises over 3000", top.bout(0, 1, WINS), 0);
        due("held at 3000", top.told(0, 0), 3000);
        due("the other one loses all the same", top.told(1, 0), 2980);
        top.rate(0, 2995);
        top.rate(1, 2995);
        due("what is held counts, not what would be", top.bout(0, 1, WINS), 5);

        WrestleBook bottom = rated(100, 110);
        due("nobody falls under 100", bottom.bout(0, 1, LOSES), 0);
        due("held at 100", bottom.told(0, 0), 100);
        bottom.rate(1, 110);
        due("down to 100, and no further", bottom.bout(1, 0, LOSES), -10);
    }

    private static void boutWeights() {
        WrestleBook book = rated(1000, 1000, 2000, 1999);
        due("first bouts are asked ahead of 2000", book.told(2, 8), 40);
        for (int i = 0; i < 9; i++) {
            evenBout(book, 2, 3);
        }
        due("the tenth bout has 40", book.told(2, 8), 40);
        book.rate(2, 2000);
        book.rate(3, 2000);
        due("the tenth bout", book.bout(2, 3, WINS), 20);
        book.rate(2, 2000);
        book.rate(3, 1999);
        due("10 with 2000", book.told(2, 8), 10);
        due("20 with 1999", book.told(3, 8), 20);
        // 501 and 499 are expected of them.
        due("the own weight of a", book.bout(2, 3, LOSES), -5);
        due("the own weight of b", book.told(3, 0), 2009);
        book.rate(3, 1999);
        due("each has the own number of bouts", book.bout(0, 3, WINS), 39);
        due("20 * -990 / 1000", book.told(3, 0), 1980);
        book.end();
        due("the first ten are of all seasons", book.told(3, 8), 20);
    }

    private static void upsets() {
        // 500 + 140 * 72 / 100 is 600, and with 73 it is 602.
        WrestleBook even = rated(1072, 1000);
        due("400 is expected", even.expected(1, 0), 400);
        even.bout(1, 0, WINS);
        due("400 is no upset", even.count(3), 0);
        even.rate(0, 1072);
        even.rate(1, 1000);
        even.bout(0, 1, LOSES);
        due("nor if b wins", even.count(3), 0);

        WrestleBook close = rated(1073, 1000);
        due("398 is expected", close.expected(1, 0), 398);
        close.bout(1, 0, WINS);
        due("398 is one, if a wins", close.count(3), 1);
        close.rate(0, 1073);
        close.rate(1, 1000);
        close.bout(0, 1, LOSES);
        due("and if b wins", close.count(3), 2);
        close.rate(0, 1500);
        close.rate(1, 1000);
        close.bout(0, 1, EVEN);
        close.bout(1, 0, EVEN);
        due("an even bout is none", close.count(3), 2);
        close.bout(0, 1, WINS);
        close.bout(1, 0, LOSES);
        due("nor is a win that was expected", close.count(3), 2);
        due("bouts in all", close.count(2), 6);
    }

    // ---- Promise 5

    private static void endDrifts() {
        WrestleBook book = rated(2000, 100, 1007, 993, 1008, 992, 1500, 1500);
        evenBout(book, 6, 7);
        evenBout(book, 6, 7);
        book.rate(6, 1500);
        book.rate(7, 1500);
        int[] once = {1875, 212, 1007, 993, 1007, 993, 1438, 1438};
        due("nobody to go up", book.end(), 0);
        for (int i = 0; i < once.length; i++) {
            due("drift of " + i, book.told(i, 0), once[i]);
        }
        due("best is as it was", book.told(0, 6), 2000);
        due("best of the low one", book.told(1, 6), 1000);
        for (int i = 0; i < 3; i++) {
            evenBout(book, 6, 7);
        }
        book.rate(6, 1500);
        book.end();
        due("three bouts keep the rating", book.told(6, 0), 1500);
        book.end();
        due("three bouts of another season do not", book.told(6, 0), 1438);
    }

    private static void endMovesUpAndDown() {
        WrestleBook book = leagues(0, 0, 1, 1);
        due("as many points are too few", book.end(), 0);
        evenBout(book, 2, 3);
        book.rate(0, 1100);
        book.rate(2, 1000);
        book.rate(3, 1100);
        due("one goes up", book.end(), 1);
        int[] where = {0, 1, 1, 0};
        for (int i = 0; i < 4; i++) {
            due("league of " + i, book.told(i, 1), where[i]);
        }

        WrestleBook alone = leagues(1, 1);
        alone.bout(0, 1, WINS);
        due("nobody goes up into an empty league", alone.end(), 0);
        due("league of the winner", alone.told(0, 1), 1);
        WrestleBook gap = leagues(0, 2, 2);
        gap.bout(1, 2, WINS);
        due("nor over an empty league", gap.end(), 0);
        WrestleBook single = leagues(0, 1, 2, 2);
        single.bout(1, 0, WINS);
        due("leagues of one exchange", single.end(), 1);
        due("down to 1", single.told(0, 1), 1);
        due("up to 0", single.told(1, 1), 0);

        // Behind the drift all four have 1007, so that the number tells.
        WrestleBook drifted = leagues(0, 0, 1, 1);
        evenBout(drifted, 2, 3);
        drifted.rate(0, 1007);
        drifted.rate(1, 1008);
        drifted.rate(2, 1007);
        drifted.rate(3, 1008);
        due("the order is that behind the drift", drifted.end(), 1);
        due("the greater number is last", drifted.told(1, 1), 1);
        due("the smaller number is first", drifted.told(2, 1), 0);
    }

    private static void endTakesTheLeaguesInTurn() {
        // 1 goes down from the league 0, and on from the league 1, where it is last.
        WrestleBook book = leagues(0, 0, 1, 1, 2, 2);
        book.bout(0, 4, WINS);
        book.bout(2, 4, WINS);
        book.bout(3, 4, EVEN);
        book.bout(5, 4, WINS);
        book.bout(5, 4, WINS);
        book.rate(1, 900);
        due("two go up", book.end(), 2);
        int[] where = {0, 2, 0, 1, 2, 1};
        for (int i = 0; i < 6; i++) {
            due("in turn, league of " + i, book.told(i, 1), where[i]);
        }

        // Who went up is away: the league 1 is left with the one who went down.
        WrestleBook small = leagues(0, 1, 2);
        small.bout(1, 0, WINS);
        small.bout(2, 0, EVEN);
        due("one up, and 1 point is no more than 1", small.end(), 1);
        due("the former last one", small.told(0, 1), 1);
        due("the former first one", small.told(1, 1), 0);
        due("who stays", small.told(2, 1), 2);
    }

    private static void endStartsASeason() {
        WrestleBook book = rated(1000, 1000);
        book.bout(0, 1, WINS);
        book.bout(0, 1, WINS);
        due("season ahead of it", book.count(0), 0);
        book.end();
        due("season behind it", book.count(0), 1);
        for (int i = 0; i < 2; i++) {
            due("points of " + i, book.told(i, 2), 0);
            due("bouts in all of " + i, book.told(i, 3), 2);
            due("bouts of the season of " + i, book.told(i, 4), 0);
        }
        due("bouts in all stay", book.count(2), 2);
        due("row of wins stays", book.told(0, 5), 2);
        book.end();
        due("season behind the second one", book.count(0), 2);
    }

    // ---- Promise 6

    private static void expected() {
        int[] table = {500, 640, 760, 849, 909, 947, 969, 983, 990, 990, 990};
        WrestleBook book = rated(1500, 1500);
        for (int hundreds = 0; hundreds < table.length; hundreds++) {
            book.rate(1, 1500 - 100 * hundreds);
            due("expected, d " + hundreds + "00", book.expected(0, 1), table[hundreds]);
            due("the other one, d " + hundreds + "00", book.expected(1, 0), 1000 - table[hundreds]);
        }
        int[][] between = {{1, 501}, {50, 570}, {99, 638}, {101, 641}, {199, 758}, {250, 804},
            {350, 879}, {499, 946}, {699, 982}, {701, 983}, {799, 989}, {801, 990}};
        for (int[] row : between) {
            book.rate(1, 1500 - row[0]);
            due("expected, d " + row[0], book.expected(0, 1), row[1]);
            due("the other one, d " + row[0], book.expected(1, 0), 1000 - row[1]);
        }
        book.rate(0, 3000);
        book.rate(1, 100);
        due("expected, d 2900", book.expected(0, 1), 990);
        due("against oneself", book.expected(1, 1), 500);
        for (int no : NO_WRESTLERS_OF_TWO) {
            dueThrow("expected(" + no + ", 0)", book, INDEX, () -> book.expected(no, 0));
            dueThrow("expected(0, " + no + ")", book, INDEX, () -> book.expected(0, no));
        }
    }

    // ---- Promise 7

    private static void told() {
        WrestleBook book = leagues(1, 1, 1, 2);
        book.bout(0, 1, WINS);
        book.bout(2, 3, WINS);
        book.rate(2, 1300);
        dueTold(book, 0, 1020, 1, 2, 1, 1, 1, 1020);
        dueTold(book, 3, 980, 2, 0, 1, 1, 0, 1000);
        due("place by rating", book.told(0, 7), 2);
        due("place of the higher one", book.told(2, 7), 1);
        due("place of the last one", book.told(1, 7), 3);
        due("place in the own league", book.told(3, 7), 1);
        book.rate(2, 1020);
        due("place by number", book.told(0, 7), 1);
        due("place of the greater number", book.told(2, 7), 2);
        due("weight", book.told(0, 8), 40);
        for (int what : new int[] {-1, 9, Integer.MIN_VALUE, Integer.MAX_VALUE}) {
            dueThrow("told(0, " + what + ")", book, INDEX, () -> book.told(0, what));
        }
        for (int no : new int[] {-1, 4, 12, Integer.MIN_VALUE, Integer.MAX_VALUE}) {
            dueThrow("told(" + no + ", 0)", book, INDEX, () -> book.told(no, 0));
        }
    }

    // ---- Promise 8

    private static void at() {
        WrestleBook book = leagues(0, 1, 0, 1, 0, 0);
        book.rate(0, 2000);
        book.bout(4, 1, WINS);
        book.rate(4, 500);
        book.rate(5, 1500);
        int[] first = {4, 0, 5, 2};
        for (int place = 1; place <= 4; place++) {
            due("at(0, " + place + ")", book.at(0, place), first[place - 1]);
        }
        due("at(1, 1)", book.at(1, 1), 3);
        due("at(1, 2)", book.at(1, 2), 1);
        dueThrow("at(0, 5)", book, INDEX, () -> book.at(0, 5));
        dueThrow("at(0, 0)", book, INDEX, () -> book.at(0, 0));
        dueThrow("at(0, -1)", book, INDEX, () -> book.at(0, -1));
        dueThrow("at(1, 3)", book, INDEX, () -> book.at(1, 3));
        dueThrow("at(2, 1)", book, INDEX, () -> book.at(2, 1));
        dueThrow("at(2, 0)", book, INDEX, () -> book.at(2, 0));
        for (int far : new int[] {-1, 3, Integer.MIN_VALUE, Integer.MAX_VALUE}) {
            dueThrow("at(" + far + ", 1)", book, INDEX, () -> book.at(far, 1));
        }
        for (int far : new int[] {13, Integer.MIN_VALUE, Integer.MAX_VALUE}) {
            dueThrow("at(0, " + far + ")", book, INDEX, () -> book.at(0, far));
        }
    }

    // ---- Promise 9

    private static void count() {
        WrestleBook book = leagues(0, 2, 2, 1, 2, 0);
        book.rate(3, 1200);
        book.rate(3, 1100);
        book.rate(4, 800);
        book.rate(5, 300);
        book.bout(5, 3, WINS);
        book.bout(0, 1, EVEN);
        book.end();
        // 5 has won 39 of 300, and drifts from 339 by 82; 3 drifts from 1061 by 7.
        int[] want = {1, 6, 2, 1, 2, 1, 3, 1054, 421};
        for (int what = 0; what <= 8; what++) {
            due("count(" + what + ")", book.count(what), want[what]);
        }
        WrestleBook high = rated(3000);
        due("lowest of one", high.count(8), 3000);
        WrestleBook low = rated(100);
        due("highest of one", low.count(7), 100);
        due("lowest, the first one", rated(900, 1000).count(8), 900);
        for (int what : new int[] {-1, 9, Integer.MIN_VALUE, Integer.MAX_VALUE}) {
            dueThrow("count(" + what + ")", book, INDEX, () -> book.count(what));
        }
    }

    // ---- Promise 10

    private static void would() {
        WrestleBook book = rated(1150, 920);
        int[][] rows = {{WINS, 8, -8}, {EVEN, -11, 11}, {LOSES, -31, 31}};
        long before = book.digest();
        for (int[] row : rows) {
            due("would(0, 1, " + row[0] + ", 0)", book.would(0, 1, row[0], 0), row[1]);
            due("would(0, 1, " + row[0] + ", 1)", book.would(0, 1, row[0], 1), row[2]);
            due("would(1, 0, " + row[0] + ", 1)", book.would(1, 0, 2 - row[0], 1), row[1]);
        }
        due("would changes nothing", book.digest(), before);
        // 526 is expected: 40 * 474 is 18960, and 40 * -526 is -21040.
        WrestleBook near = rated(1019, 1000);
        due("18.96 is cut", near.would(0, 1, WINS, 0), 18);
        due("-18.96 is cut", near.would(0, 1, WINS, 1), -18);
        due("-21.04 is cut", near.would(0, 1, LOSES, 0), -21);
        due("-1.04 is cut", near.would(0, 1, EVEN, 0), -1);
        WrestleBook bounds = rated(2990, 105);
        due("would hold at 3000", bounds.would(0, 1, WINS, 0), 0);
        bounds.rate(1, 2990);
        due("would rise to 3000 alone", bounds.would(0, 1, WINS, 0), 10);
        due("of b, at 3000", bounds.would(0, 1, LOSES, 1), 10);
        bounds.rate(0, 105);
        bounds.rate(1, 105);
        due("would fall to 100 alone", bounds.would(0, 1, LOSES, 0), -5);
        wouldRefuses();
    }

    private static void wouldRefuses() {
        WrestleBook book = rated(1000, 1000);
        for (int no : NO_WRESTLERS_OF_TWO) {
            dueThrow("would(" + no + ", 0, 1, 0)", book, INDEX, () -> book.would(no, 0, EVEN, 0));
            dueThrow("would(0, " + no + ", 1, 0)", book, INDEX, () -> book.would(0, no, EVEN, 0));
            dueThrow("would(0, 1, 1, " + no + ")", book, INDEX, () -> book.would(0, 1, EVEN, no));
            dueThrow("would(0, 0, 9, " + no + ")", book, INDEX, () -> book.would(0, 0, 9, no));
            dueThrow("would(no, no, 9, 0)", book, INDEX, () -> book.would(no, no, 9, 0));
        }
        dueThrow("would(1, 1, 1, 0)", book, ARGUMENT, () -> book.would(1, 1, EVEN, 0));
        for (int result : new int[] {-1, 3, Integer.MIN_VALUE, Integer.MAX_VALUE}) {
            dueThrow("would(0, 1, " + result + ", 1)", book, ARGUMENT, () -> book.would(0, 1, result, 1));
        }
    }

    // ---- Promise 11

    private static void chance() {
        WrestleBook book = rated(1119, 951);
        due("chance(0, 1, 1)", book.chance(0, 1, 1), 721000);
        due("chance(1, 0, 1)", book.chance(1, 0, 1), 279000);
        // f(1, 2) is 922159, f(2, 1) is 519841: (721 * 922159 + 279 * 519841) / 1000.
        due("chance(0, 1, 2)", book.chance(0, 1, 2), 809912);
        due("chance(0, 1, 3)", book.chance(0, 1, 3), 863567);
        due("chance(1, 0, 3)", book.chance(1, 0, 3), 136430);
        due("a short row behind a long one", book.chance(0, 1, 1), 721000);
        book.rate(0, 3000);
        due("the greatest chance", book.chance(0, 1, 9), 999991);
        due("the least one", book.chance(1, 0, 9), 0);
        book.rate(0, 951);
        due("each cut towards 0", book.chance(0, 1, 9), 499997);
        for (int no : NO_WRESTLERS_OF_TWO) {
            dueThrow("chance(" + no + ", 0, 1)", book, INDEX, () -> book.chance(no, 0, 1));
            dueThrow("chance(0, " + no + ", 1)", book, INDEX, () -> book.chance(0, no, 1));
            dueThrow("chance(no, no, 0)", book, INDEX, () -> book.chance(no, no, 0));
        }
        dueThrow("chance(1, 1, 1)", book, ARGUMENT, () -> book.chance(1, 1, 1));
        for (int wins : new int[] {0, -1, 10, Integer.MIN_VALUE, Integer.MAX_VALUE}) {
            dueThrow("chance(0, 1, " + wins + ")", book, ARGUMENT, () -> book.chance(0, 1, wins));
        }
    }

    // ---- Promise 12

    private static void match() {
        WrestleBook book = leagues(0, 0, 0, 0, 1);
        book.rate(0, 1000);
        book.rate(1, 1100);
        book.rate(2, 900);
        book.rate(3, 1090);
        book.rate(4, 1000);
        due("the most even one", book.match(0), 3);
        book.rate(3, 1100);
        due("the smallest number of several", book.match(0), 1);
        due("as high as another", book.match(3), 1);
        due("seen from below", book.match(2), 0);
        book.rate(1, 900);
        due("100 below is as even as 100 above", book.match(0), 1);
        book.rate(1, 1100);
        due("alone in the league", book.match(4), -1);
        book.rate(0, 3000);
        due("from 800 apart on all are as even", book.match(0), 1);
        book.rate(1, 100);
        due("one who is nearer is more even", book.match(2), 3);
        for (int no : new int[] {-1, 5, 12, Integer.MIN_VALUE, Integer.MAX_VALUE}) {
            dueThrow("match(" + no + ")", book, INDEX, () -> book.match(no));
        }
    }

    // ---- Promise 13

    private static void next() {
        WrestleBook book = leagues(0, 1, 2);
        due("no pair in one league", book.next(), -1);
        book.join(2);
        due("the only pair", book.next(), 2 * 12 + 3);
        book.join(0);
        due("of two pairs the smaller first number", book.next(), 4);
        book.rate(0, 1010);
        due("of two pairs the more even one", book.next(), 2 * 12 + 3);
        book.bout(2, 1, EVEN);
        due("fewest bouts go ahead", book.next(), 4);
        book.bout(0, 4, EVEN);
        due("both added: 1 is fewer than 2", book.next(), 2 * 12 + 3);
        book.end();
        due("bouts of the season alone", book.next(), 2 * 12 + 3);

        WrestleBook pairs = leagues(0, 0, 1, 1);
        pairs.rate(1, 1100);
        pairs.rate(2, 1100);
        due("100 below is as even as 100 above", pairs.next(), 1);

        WrestleBook three = rated(1000, 1000, 1000);
        due("smallest second number", three.next(), 1);
        three.rate(0, 1200);
        three.rate(2, 1100);
        due("0 and 2 are as even as 1 and 2", three.next(), 2);
        three.rate(0, 1500);
        due("1 and 2 are more even", three.next(), 12 + 2);
    }

    // ---- Promise 14

    private static void foresee() {
        WrestleBook book = rated(1000, 1000);
        long before = book.digest();
        due("foresee(1), the first one wins", book.foresee(1), 1020);
        // d is 40: 556 is expected, 40 * 444 / 1000 is 17.
        due("foresee(2), the higher one wins", book.foresee(2), 1037);
        due("foresee changes nothing", book.digest(), before);
        due("foresee is the same again", book.foresee(2), 1037);
        book.rate(1, 1010);
        // 514 is expected of the higher one, 40 * 486 / 1000 is 19.
        due("the second one wins, if higher", book.foresee(1), 1029);
        due("behind them the weight is 20", tenBoutsOf1400().foresee(1), 1410);

        WrestleBook apart = leagues(0, 1, 2);
        apart.rate(1, 1600);
        due("no pair, it is over", apart.foresee(40), 1600);
        due("no wrestlers", new WrestleBook().foresee(1), 0);
        due("nobody, but 40 bouts", new WrestleBook().foresee(40), 0);

        // 0 and 1 meet, then each of them meets 2 but for the bouts that were held.
        WrestleBook three = rated(1000, 1000, 1000);
        due("foresee(1) of three", three.foresee(1), 1020);
        due("foresee(2) of three", three.foresee(2), foreseenByHand(three(), 2));
        due("foresee(40) of three", three.foresee(40), foreseenByHand(three(), 40));
        for (int bouts : new int[] {0, -1, 41, Integer.MIN_VALUE, Integer.MAX_VALUE}) {
            dueThrow("foresee(" + bouts + ")", book, ARGUMENT, () -> book.foresee(bouts));
        }
    }

    private static WrestleBook three() {
        return rated(1000, 1000, 1000);
    }

    private static WrestleBook tenBoutsOf1400() {
        WrestleBook book = rated(1000, 1000);
        for (int i = 0; i < 10; i++) {
            evenBout(book, 0, 1);
        }
        book.rate(0, 1400);
        book.rate(1, 1400);
        return book;
    }

    private static int foreseenByHand(WrestleBook book, int bouts) {
        for (int i = 0; i < bouts && book.next() >= 0; i++) {
            int first = book.next() / 12;
            int second = book.next() % 12;
            book.bout(first, second, book.told(first, 0) >= book.told(second, 0) ? WINS : LOSES);
        }
        return book.count(7);
    }

    // ---- Promise 15

    private static void mean() {
        dueDouble("mean of one", rated(1234).mean(), 1234.0);
        dueDouble("mean of two", rated(1001, 1000).mean(), 1000.5);
        dueDouble("mean of three", rated(1000, 1000, 1001).mean(), 3001.0 / 3.0);
        dueDouble("mean of all leagues", leagues(0, 1, 2).mean(), 1000.0);
        int[] high = new int[12];
        java.util.Arrays.fill(high, 3000);
        dueDouble("mean of twelve", rated(high).mean(), 3000.0);
    }

    // ---- Promise 16

    private static void digest() {
        WrestleBook empty = new WrestleBook();
        long d = 1637;
        for (int i = 0; i < 9; i++) {
            d = d * 31;
        }
        due("digest of an empty book", empty.digest(), d * 31 - 1);

        WrestleBook book = leagues(0, 1, 1);
        book.bout(1, 0, WINS);
        due("digest of three", book.digest(), digestByHand(book));
        due("digest changes nothing", book.digest(), digestByHand(book));
        book.end();
        due("digest behind a season", book.digest(), digestByHand(book));
    }

    private static long digestByHand(WrestleBook book) {
        long d = 1637;
        for (int what = 0; what <= 8; what++) {
            d = d * 31 + book.count(what);
        }
        for (int wrestler = 0; wrestler < book.count(1); wrestler++) {
            for (int what = 0; what <= 8; what++) {
                d = d * 31 + book.told(wrestler, what);
            }
        }
        return d * 31 + book.next();
    }

    // ---- all of them, with all the wrestlers that a book holds

    private static void fullBook() {
        WrestleBook book = fullOf2600();
        due("full: foresee(40)", book.foresee(40), foreseenByHand(fullOf2600(), 40));
        due("full: bout(11, 10, 0)", book.bout(11, 10, LOSES), -39);
        due("full: would(11, 10, 2, 1)", book.would(11, 10, WINS, 1), 0);
        due("full: at(0, 12)", book.at(0, 12), 9);
        due("full: at(0, 2)", book.at(0, 2), 11);
        due("full: match(11)", book.match(11), 0);
        due("full: match(9)", book.match(9), 0);
        due("full: chance(10, 11, 9)", book.chance(10, 11, 9), 0);
        due("full: next()", book.next(), 1);
        due("full: end()", book.end(), 0);
        due("full: told(11, 0)", book.told(11, 0), 2561 - 195);
        due("full: count(7)", book.count(7), 2366);
        due("full: count(8)", book.count(8), 1000);
        dueDouble("full: mean()", book.mean(), (10 * 1000 + 1035 + 2366) / 12.0);
        due("full: digest()", book.digest(), digestByHand(book));
    }

    private static WrestleBook fullOf2600() {
        WrestleBook book = leagues(0, 0, 0, 0, 0, 0, 0, 0, 0, 0, 0, 0);
        book.rate(11, 2600);
        return book;
    }

    // ---- what the tests share

    /** A book of wrestlers in the league 0 with these ratings. */
    private static WrestleBook rated(int... ratings) {
        WrestleBook book = new WrestleBook();
        for (int rating : ratings) {
            book.rate(book.join(0), rating);
        }
        return book;
    }

    /** A book of wrestlers in these leagues. */
    private static WrestleBook leagues(int... leagues) {
        WrestleBook book = new WrestleBook();
        for (int league : leagues) {
            book.join(league);
        }
        return book;
    }

    private static void evenBout(WrestleBook book, int a, int b) {
        book.bout(a, b, EVEN);
    }

    /** What told() tells of a wrestler from 0 to 6. */
    private static void dueTold(WrestleBook book, int wrestler, int... want) {
        for (int what = 0; what < want.length; what++) {
            due("told(" + wrestler + ", " + what + ")", book.told(wrestler, what), want[what]);
        }
    }

    private static void due(String call, long got, long want) {
        checks++;
        if (got != want) {
            wrong++;
            System.out.println(call + " answered " + got + ", due is " + want);
        }
    }

    private static void dueDouble(String call, double got, double want) {
        checks++;
        if (got != want) {
            wrong++;
            System.out.println(call + " answered " + got + ", due is " + want);
        }
    }

    /** The call throws just this, and the book is behind it as it was ahead. */
    private static void dueThrow(String call, WrestleBook book, Class<?> want, Runnable run) {
        long before = book.digest();
        Class<?> got = null;
        try {
            run.run();
        } catch (RuntimeException e) {
            got = e.getClass();
        }
        checks++;
        if (got != want) {
            wrong++;
            System.out.println(call + " threw " + got + ", due is " + want);
        }
        due(call + " leaves the digest", book.digest(), before);
    }
}
